/** Promise 7: stretch. */
public final class StretchTest {
    public static void main(String[] args) {
        knownAnswer();
        sizes();
        longKeyAndInfo();
        refusals();
        Check.end();
    }

    private static SealBox boxWith(byte[] key, byte[] info) {
        SealBox box = new SealBox();
        Check.keep(box, 1, key);
        Check.feed(box, info);
        return box;
    }

    private static void knownAnswer() {
        SealBox box = boxWith(Check.bytes("077709362c2e32df0ddc3f0dc47bba6390b6c73bb50f9c3122ec844ad7c2b3e5"),
                Check.bytes("f0f1f2f3f4f5f6f7f8f9"));
        box.stretch(1, 42);
        Check.out("stretch(1, 42)", box,
                "3cb25f25faacd57a90434f64d0362f2a2d2d0a90cf1a5a4c5db02d56ecc4c5bf34007208d5b887185865");
        Check.due("the tape is read", 0, () -> box.look(0));
        Check.due("the slot stays", 32, () -> box.look(3));
    }

    private static void sizes() {
        for (int n : new int[] {1, 31, 32, 33, 63, 64, 65, 96, 992, 993, 1023, 1024}) {
            byte[] key = Check.sample(32, n);
            byte[] info = Check.sample(13, n);
            SealBox box = boxWith(key, info);
            box.stretch(1, n);
            Check.out("stretch(1, " + n + ")", box, Reference.stretch(key, info, n));
            box.stretch(1, 3);
            Check.out("a short stretch behind it", box, Reference.stretch(key, new byte[0], 3));
        }
    }

    private static void longKeyAndInfo() {
        for (int keySize : new int[] {0, 64, 65, 128}) {
            byte[] key = Check.sample(keySize, 4);
            byte[] info = Check.sample(2048, 4);
            SealBox box = boxWith(key, info);
            box.stretch(1, 1024);
            Check.out("stretch(1, 1024) with 2048 under " + keySize, box, Reference.stretch(key, info, 1024));
        }
    }

    private static SealBox usualBox() {
        return boxWith(Check.sample(32, 1), Check.sample(3, 1));
    }

    private static void refusals() {
        for (int slot : Check.NO_SLOTS) {
            Check.badArgument("stretch(" + slot + ", 5)", StretchTest::usualBox, b -> b.stretch(slot, 5));
        }
        for (int n : new int[] {0, -1, 1025, Integer.MIN_VALUE, Integer.MAX_VALUE}) {
            Check.badArgument("stretch(1, " + n + ")", StretchTest::usualBox, b -> b.stretch(1, n));
        }
    }
}
