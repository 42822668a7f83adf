/** Promise 1: a new box is empty. */
public final class NewBoxTest {
    public static void main(String[] args) {
        SealBox box = new SealBox();
        for (int what = 0; what <= 9; what++) {
            int w = what;
            Check.due("look(" + what + ") of a new box", 0, () -> box.look(w));
        }
        for (int what = 10; what <= 13; what++) {
            int w = what;
            Check.due("look(" + what + ") of a new box", -1, () -> box.look(w));
        }
        Check.noElement("out(0) of a new box", SealBox::new, b -> b.out(0));
        Check.noElement("outs(0) of a new box", SealBox::new, b -> b.outs(0));
        Check.due("wipe() of a new box", 0, box::wipe);
        Check.due("keep(0, true) of a new box", 0, () -> box.keep(0, true));
        for (int guard = 0; guard <= 3; guard++) {
            int g = guard;
            Check.badState("turn(" + guard + ") of a new box", SealBox::new, b -> b.turn(g));
        }
        boxesShareNothing();
        Check.end();
    }

    private static void boxesShareNothing() {
        SealBox used = new SealBox();
        Check.keep(used, 2, Check.sample(32, 1));
        used.arm(1, 2);
        used.feed(8, 1);
        used.digest();
        used.feed(8, 1);
        Check.same("a new box beside a used one", "[0, 0, 0, 0, 0, 0, 0, 0, 0, 0, -1, -1, -1, -1] ",
                Check.stateOf(new SealBox()));
    }
}
