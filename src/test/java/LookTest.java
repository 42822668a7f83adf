/** Promise 18: look. */
public final class LookTest {
    public static void main(String[] args) {
        SealBox box = usedBox();
        int[] due = {7, 77, 10, 11, 12, 13, 14, 32, 16, 17, 0, 1, 0, -1};
        for (int what = 0; what < 14; what++) {
            int w = what;
            Check.due("look(" + what + ")", due[what], () -> box.look(w));
            Check.due("look(" + what + ") again", due[what], () -> box.look(w));
        }
        for (int what : new int[] {-1, 14, 15, Integer.MIN_VALUE, Integer.MAX_VALUE}) {
            Check.noElement("look(" + what + ")", LookTest::usedBox, b -> b.look(what));
        }
        Check.end();
    }

    private static SealBox usedBox() {
        SealBox box = new SealBox();
        for (int slot = 0; slot < 8; slot++) {
            Check.keep(box, slot, Check.sample(slot == 5 ? 32 : 10 + slot, slot));
        }
        for (int guard = 0; guard < 3; guard++) {
            box.arm(guard, 5);
        }
        box.turn(1);
        box.turn(2);
        box.turn(2);
        box.stretch(0, 77);
        box.feed(7, 7);
        return box;
    }
}
