/** Promise 5: digest. */
public final class DigestTest {
    public static void main(String[] args) {
        knownAnswers();
        allEdges();
        fullTape();
        Check.end();
    }

    private static void dueDigest(String text, String hex) {
        SealBox box = new SealBox();
        Check.feed(box, Check.text(text));
        box.digest();
        Check.out("digest of '" + text + "'", box, hex);
        Check.due("the tape is read", 0, () -> box.look(0));
    }

    private static void knownAnswers() {
        dueDigest("", "e3b0c44298fc1c149afbf4c8996fb92427ae41e4649b934ca495991b7852b855");
        dueDigest("abc", "ba7816bf8f01cfea414140de5dae2223b00361a396177a9cb410ff61f20015ad");
        dueDigest("abcdbcdecdefdefgefghfghighijhijkijkljklmklmnlmnomnopnopq",
                "248d6a61d20638b8e5c026930c3e6039a33ce45964ff2167f6ecedd419db06c1");
    }

    /** Every size up to three blocks: the padding's edges are at 55, 56, 63, 64 and 119, 120, 127, 128. */
    private static void allEdges() {
        SealBox box = new SealBox();
        for (int n = 0; n <= 192; n++) {
            if (n % 10 == 0) {
                box = new SealBox();
            }
            Check.feed(box, Check.sample(n, 3));
            box.digest();
            Check.out("digest of " + n, box, Reference.digest(Check.sample(n, 3)));
        }
    }

    private static void fullTape() {
        SealBox box = new SealBox();
        Check.feed(box, Check.sample(2048, 3));
        box.digest();
        Check.out("digest of 2048", box, Reference.digest(Check.sample(2048, 3)));
        box.digest();
        Check.out("digest behind another", box, Reference.digest(new byte[0]));
    }
}
