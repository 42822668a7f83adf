import java.util.Arrays;

/** Promise 4: keep. */
public final class KeepTest {
    public static void main(String[] args) {
        fromTape();
        fromOut();
        sizes();
        refusals();
        slotsStandAlone();
        Check.end();
    }

    private static void fromTape() {
        SealBox box = new SealBox();
        box.digest();
        byte[] out = Check.readOut(box);
        Check.feed(box, Check.sample(20, 1));
        Check.due("keep(3, false)", 20, () -> box.keep(3, false));
        Check.due("the tape is read", 0, () -> box.look(0));
        Check.due("look(5)", 20, () -> box.look(5));
        Check.out("keep leaves it", box, out);
        dueKey("a slot of the tape", box, 3, Check.sample(20, 1));
    }

    private static void fromOut() {
        SealBox box = new SealBox();
        box.digest();
        byte[] out = Check.readOut(box);
        Check.feed(box, Check.sample(20, 1));
        Check.due("keep(0, true)", 32, () -> box.keep(0, true));
        Check.due("the tape stays", 20, () -> box.look(0));
        Check.out("keep leaves it", box, out);
        box.wipe();
        dueKey("a slot of the OUT", box, 0, out);
        dueKey("a slot of the OUT, when the OUT is another", box, 0, out);
    }

    /** What a slot has is seen by a MAC under it. */
    private static void dueKey(String what, SealBox box, int slot, byte[] key) {
        Check.feed(box, Check.sample(9, 9));
        box.mac(slot);
        Check.out(what, box, Reference.mac(key, Check.sample(9, 9)));
    }

    private static void sizes() {
        SealBox box = new SealBox();
        for (int n : new int[] {128, 1, 127, 0, 64}) {
            Check.feed(box, Check.sample(n, n));
            Check.due("keep(7, false) of " + n, n, () -> box.keep(7, false));
            Check.due("look(9)", n, () -> box.look(9));
            dueKey("a slot of " + n, box, 7, Check.sample(n, n));
        }
        Check.keep(box, 0, Check.sample(32, 1));
        box.stretch(0, 128);
        byte[] out = Check.readOut(box);
        Check.due("keep(1, true) of 128", 128, () -> box.keep(1, true));
        dueKey("a slot of 128 of the OUT", box, 1, out);
    }

    /** A box with 5 bytes in slot 0, some on the tape and some in the OUT. */
    private static SealBox boxWith(int tape, int out) {
        SealBox box = new SealBox();
        Check.keep(box, 0, Check.sample(5, 1));
        box.stretch(0, out);
        Check.feed(box, Check.sample(tape, 1));
        return box;
    }

    private static void refusals() {
        for (int slot : Check.NO_SLOTS) {
            for (boolean out : new boolean[] {false, true}) {
                String call = "keep(" + slot + ", " + out + ")";
                Check.badArgument(call, () -> boxWith(3, 3), b -> b.keep(slot, out));
                Check.badArgument(call + " of 129", () -> boxWith(129, 129), b -> b.keep(slot, out));
            }
        }
        Check.badState("keep(0, false) of 129", () -> boxWith(129, 3), b -> b.keep(0, false));
        Check.badState("keep(0, true) of 129", () -> boxWith(3, 129), b -> b.keep(0, true));
        Check.badState("keep(1, false) of 2048", () -> boxWith(2048, 3), b -> b.keep(1, false));
        Check.badState("keep(1, true) of 1024", () -> boxWith(3, 1024), b -> b.keep(1, true));
        SealBox longOut = boxWith(0, 129);
        Check.due("keep(1, false) of none, when the OUT has 129", 0, () -> longOut.keep(1, false));
        SealBox longTape = boxWith(129, 32);
        Check.due("keep(0, true) of 32, when the tape has 129", 32, () -> longTape.keep(0, true));
        Check.due("the tape stays", 129, () -> longTape.look(0));
    }

    private static void slotsStandAlone() {
        SealBox box = new SealBox();
        for (int slot = 0; slot < 8; slot++) {
            Check.keep(box, slot, Check.sample(30 + slot, slot));
        }
        for (int slot = 0; slot < 8; slot++) {
            dueKey("slot " + slot, box, slot, Check.sample(30 + slot, slot));
        }
        Check.keep(box, 2, Arrays.copyOf(Check.sample(30, 7), 3));
        dueKey("a slot that got fewer bytes", box, 2, Arrays.copyOf(Check.sample(30, 7), 3));
    }
}
