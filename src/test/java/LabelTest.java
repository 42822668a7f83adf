/** Promise 8: label. */
public final class LabelTest {
    public static void main(String[] args) {
        allLabels();
        infoWrittenOut();
        sizes();
        contexts();
        refusals();
        Check.end();
    }

    private static SealBox boxWith(byte[] key, byte[] context) {
        SealBox box = new SealBox();
        Check.keep(box, 6, key);
        Check.feed(box, context);
        return box;
    }

    private static void allLabels() {
        byte[] key = Check.sample(32, 1);
        byte[] context = Check.sample(32, 2);
        SealBox box = boxWith(key, context);
        for (int w = 0; w <= 10; w++) {
            box.label(6, w, 32);
            Check.out("label(6, " + w + ", 32)", box, Reference.label(key, w, w == 0 ? context : new byte[0], 32));
            Check.due("the tape is read", 0, () -> box.look(0));
        }
    }

    /** A label is the stretch with an info that is fed by hand here. */
    private static void infoWrittenOut() {
        byte[] key = Check.sample(32, 1);
        SealBox labelled = boxWith(key, new byte[] {1, 2, -1});
        labelled.label(6, 4, 259);
        SealBox stretched = boxWith(key, Check.bytes("01030a" + Check.hex(Check.text("v1 first a")) + "030102ff"));
        stretched.stretch(6, 259);
        Check.out("label(6, 4, 259)", labelled, Check.readOut(stretched));
    }

    private static void sizes() {
        for (int n : new int[] {1, 12, 31, 32, 33, 64, 255, 256, 257, 1023, 1024}) {
            byte[] key = Check.sample(32, n);
            SealBox box = boxWith(key, Check.sample(7, n));
            box.label(6, 9, n);
            Check.out("label(6, 9, " + n + ")", box, Reference.label(key, 9, Check.sample(7, n), n));
        }
    }

    private static void contexts() {
        for (int size : new int[] {0, 1, 127, 128, 254, 255}) {
            for (int keySize : new int[] {0, 65, 128}) {
                byte[] key = Check.sample(keySize, 8);
                SealBox box = boxWith(key, Check.sample(size, 3));
                box.label(6, 5, 40);
                Check.out("label with a context of " + size, box,
                        Reference.label(key, 5, Check.sample(size, 3), 40));
            }
        }
    }

    private static void refusals() {
        Check.badState("label(6, 0, 32) with 256", () -> usualBox(256), b -> b.label(6, 0, 32));
        Check.badState("label(6, 10, 1024) with 2048", () -> usualBox(2048), b -> b.label(6, 10, 1024));
        for (int size : new int[] {255, 256}) {
            for (int slot : Check.NO_SLOTS) {
                Check.badArgument("label(" + slot + ", 0, 32)", () -> usualBox(size), b -> b.label(slot, 0, 32));
            }
            for (int w : new int[] {-1, 11, Integer.MIN_VALUE, Integer.MAX_VALUE}) {
                Check.badArgument("label(6, " + w + ", 32)", () -> usualBox(size), b -> b.label(6, w, 32));
            }
            for (int n : new int[] {0, -1, 1025, Integer.MIN_VALUE, Integer.MAX_VALUE}) {
                Check.badArgument("label(6, 0, " + n + ")", () -> usualBox(size), b -> b.label(6, 0, n));
            }
        }
    }

    private static SealBox usualBox(int size) {
        return boxWith(Check.sample(32, 1), Check.sample(size, 1));
    }
}
