/** Promise 9: block. */
public final class BlockTest {
    public static void main(String[] args) {
        knownAnswer();
        counters();
        refusals();
        Check.end();
    }

    private static void knownAnswer() {
        SealBox box = new SealBox();
        byte[] key = new byte[32];
        for (int i = 0; i < 32; i++) {
            key[i] = (byte) i;
        }
        Check.keep(box, 0, key);
        Check.feed(box, Check.bytes("000000090000004a00000000"));
        box.block(0, 1);
        Check.out("block(0, 1)", box, "10f1e7e4d13b5915500fdd1fa32071c4c7d1f4c733c068030422aa9ac3d46c4e"
                + "d2826446079faa0914c2d705d98b02a2b5129cd1de164eb9cbd083e8a2503c4e");
        Check.due("the tape is read", 0, () -> box.look(0));
        Check.due("the slot stays", 32, () -> box.look(2));
    }

    private static void counters() {
        for (int counter : new int[] {0, 1, 255, 256, Integer.MAX_VALUE, Integer.MIN_VALUE, -1}) {
            SealBox box = new SealBox();
            byte[] key = Check.sample(32, counter);
            byte[] nonce = Check.sample(12, counter + 1);
            Check.keep(box, 7, key);
            Check.feed(box, nonce);
            box.block(7, counter);
            Check.out("block(7, " + counter + ")", box, Reference.keyBlock(key, nonce, counter));
        }
    }

    /** Slot 0 has a key, slot 1 a byte less, slot 2 a byte more, slot 3 nothing. */
    private static SealBox boxWith(int size) {
        SealBox box = new SealBox();
        Check.keep(box, 0, Check.sample(32, 1));
        Check.keep(box, 1, Check.sample(31, 1));
        Check.keep(box, 2, Check.sample(33, 1));
        Check.feed(box, Check.sample(size, 2));
        return box;
    }

    private static void refusals() {
        for (int size : new int[] {0, 11, 13, 2048}) {
            Check.badState("block(0, 0) with " + size, () -> boxWith(size), b -> b.block(0, 0));
        }
        for (int slot = 1; slot <= 3; slot++) {
            int wrong = slot;
            Check.badState("block(" + slot + ", 0)", () -> boxWith(12), b -> b.block(wrong, 0));
        }
        for (int slot : Check.NO_SLOTS) {
            Check.badArgument("block(" + slot + ", 0)", () -> boxWith(12), b -> b.block(slot, 0));
            Check.badArgument("block(" + slot + ", 0) with 11", () -> boxWith(11), b -> b.block(slot, 0));
        }
    }
}
