/** Promise 6: mac. */
public final class MacTest {
    public static void main(String[] args) {
        knownAnswers();
        keySizes();
        keyBehindKey();
        textSizes();
        refusals();
        Check.end();
    }

    private static void dueMac(byte[] key, byte[] text, String hex) {
        SealBox box = new SealBox();
        Check.keep(box, 5, key);
        Check.feed(box, text);
        box.mac(5);
        Check.out("mac of " + text.length + " under " + key.length, box, hex);
        Check.due("the tape is read", 0, () -> box.look(0));
        Check.due("the slot stays", key.length, () -> box.look(7));
        Check.feed(box, text);
        box.mac(5);
        Check.out("the same mac again", box, hex);
    }

    private static void knownAnswers() {
        dueMac(Check.repeat(0x0b, 20), Check.text("Hi There"),
                "b0344c61d8db38535ca8afceaf0bf12b881dc200c9833da726e9376c2e32cff7");
        dueMac(Check.text("Jefe"), Check.text("what do ya want for nothing?"),
                "5bdcc146bf60754e6a042426089575c75a003f089d2739839dec58b964ec3843");
        dueMac(Check.repeat(0xaa, 20), Check.repeat(0xdd, 50),
                "773ea91e36800e46854db8ebd09181a72959098b3ef8c122d9635514ced565fe");
    }

    private static void keySizes() {
        for (int n : new int[] {0, 1, 31, 32, 33, 63, 64, 65, 66, 127, 128}) {
            byte[] text = Check.sample(70, 2);
            dueMac(Check.sample(n, 5), text, Check.hex(Reference.mac(Check.sample(n, 5), text)));
        }
    }

    /** Nothing of a key gets into the mac under the next one. */
    private static void keyBehindKey() {
        int[] sizes = {0, 1, 31, 32, 33, 63, 64, 65, 127, 128};
        for (int before : sizes) {
            for (int size : sizes) {
                SealBox box = new SealBox();
                Check.keep(box, 0, Check.sample(before, 3));
                Check.keep(box, 1, Check.sample(size, 5));
                box.mac(0);
                box.mac(1);
                Check.out("mac under " + size + " behind one under " + before, box,
                        Reference.mac(Check.sample(size, 5), new byte[0]));
            }
        }
    }

    private static void textSizes() {
        for (int n : new int[] {0, 1, 55, 56, 63, 64, 65, 119, 120, 128}) {
            byte[] key = Check.sample(40, 6);
            dueMac(key, Check.sample(n, 5), Check.hex(Reference.mac(key, Check.sample(n, 5))));
        }
        SealBox box = new SealBox();
        Check.feed(box, Check.sample(2048, 5));
        box.mac(0);
        Check.out("mac of 2048 under none", box, Reference.mac(new byte[0], Check.sample(2048, 5)));
    }

    private static SealBox boxWithTape() {
        SealBox box = new SealBox();
        box.feed(4, 4);
        return box;
    }

    private static void refusals() {
        for (int slot : Check.NO_SLOTS) {
            Check.badArgument("mac(" + slot + ")", MacTest::boxWithTape, b -> b.mac(slot));
        }
    }
}
