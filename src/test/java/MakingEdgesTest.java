import java.util.Arrays;

/** The sentences of 'Terms' on words, DIGEST, MAC, STRETCH, LABEL, KEY BLOCK and TALLY that name an edge. */
public final class MakingEdgesTest {
    private static final byte[] NONE = new byte[0];
    private static final String ZEROS = "00".repeat(16);
    private static final String ONES = "ff".repeat(16);
    /** The R and the S of a tally key that make a tally the plain sum of its pieces. */
    private static final String PLAIN_KEY = "01" + "00".repeat(31);

    public static void main(String[] args) {
        Check.sentence("sums of words wrap", MakingEdgesTest::sumsOfWordsWrap);
        Check.sentence("LEFT x n, RIGHT x n is a word turned round by n bits, x >>> n shifted with 0s",
                MakingEdgesTest::wordsTurnAndShift);
        Check.sentence("as many 0s as are needed for 8 less than a multiple of 64", MakingEdgesTest::digestPadding);
        Check.sentence("8 times their number as 8 bytes, highest first", MakingEdgesTest::digestLength);
        Check.sentence("a key of more than 64 bytes is first replaced by its digest", MakingEdgesTest::macLongKey);
        Check.sentence("0s behind it make it 64", MakingEdgesTest::macShortKey);
        Check.sentence("T(i) is the MAC under the key of T(i-1) (nothing for i 1), the info, and the byte i.",
                MakingEdgesTest::stretchFirstPart);
        Check.sentence("one behind the other, cut off behind n", MakingEdgesTest::stretchIsCutOff);
        Check.sentence("n as two bytes, highest first; one byte, how many the text of w has; that text;",
                MakingEdgesTest::labelInfo);
        Check.sentence("a CONTEXT of at most 255 bytes", MakingEdgesTest::labelContext);
        Check.sentence("the key's eight, the counter, the nonce's three (lowest bytes first)",
                MakingEdgesTest::blockWords);
        Check.sentence("for each 16 bytes in turn (at last maybe fewer)", MakingEdgesTest::tallyLastPiece);
        Check.sentence("A is 0;", MakingEdgesTest::tallyOfNothing);
        Check.sentence("modulo 2^130 - 5", MakingEdgesTest::tallyModulus);
        Check.sentence("The tally is A + S modulo 2^128, lowest first.", MakingEdgesTest::tallySum);
        Check.sentence("of which the bytes 3, 7, 11, 15 keep their lowest 4 bits, 4, 8, 12 their highest 6",
                MakingEdgesTest::tallyKeyBits);
        Check.end();
    }

    private static byte[] digestOf(byte[] bytes) {
        SealBox box = new SealBox();
        Check.feed(box, bytes);
        box.digest();
        return Check.readOut(box);
    }

    private static void dueDigest(byte[] bytes) {
        Check.same("digest of " + bytes.length + " bytes", Check.hex(Reference.digest(bytes)),
                Check.hex(digestOf(bytes)));
    }

    private static byte[] macOf(byte[] key, byte[] bytes) {
        SealBox box = new SealBox();
        Check.keep(box, 3, key);
        Check.feed(box, bytes);
        box.mac(3);
        return Check.readOut(box);
    }

    private static byte[] stretchOf(byte[] key, byte[] info, int n) {
        SealBox box = new SealBox();
        Check.keep(box, 3, key);
        // what an earlier stretch made must not get into the next one
        box.stretch(3, 64);
        Check.feed(box, info);
        box.stretch(3, n);
        return Check.readOut(box);
    }

    private static byte[] labelOf(byte[] key, int w, byte[] context, int n) {
        SealBox box = new SealBox();
        Check.keep(box, 3, key);
        Check.feed(box, context);
        box.label(3, w, n);
        return Check.readOut(box);
    }

    private static byte[] blockOf(byte[] key, byte[] nonce, int counter) {
        SealBox box = new SealBox();
        Check.keep(box, 3, key);
        Check.feed(box, nonce);
        box.block(3, counter);
        return Check.readOut(box);
    }

    private static void dueTally(String key, String bytes, String want) {
        SealBox box = new SealBox();
        Check.keep(box, 3, Check.bytes(key));
        Check.feed(box, Check.bytes(bytes));
        box.tally(3);
        Check.out("tally of " + bytes + " under " + key, box, want);
    }

    private static void dueSame(String what, byte[] want, byte[] got) {
        Check.same(what, Check.hex(want), Check.hex(got));
    }

    private static void sumsOfWordsWrap() {
        byte[] nonce = Check.repeat(255, 12);
        byte[] block = blockOf(Check.repeat(255, 32), nonce, -1);
        dueSame("block of nothing but 255", Reference.keyBlock(Check.repeat(255, 32), nonce, -1), block);
        dueDigest(Check.repeat(255, 64));
        dueDigest(Check.repeat(127, 64));
        dueDigest(Check.repeat(255, 2048));
    }

    private static void wordsTurnAndShift() {
        for (int bit = 0; bit < 512; bit++) {
            byte[] bytes = new byte[64];
            bytes[bit / 8] = (byte) (1 << bit % 8);
            dueDigest(bytes);
        }
        for (int bit = 0; bit < 256; bit++) {
            byte[] key = new byte[32];
            key[bit / 8] = (byte) (1 << bit % 8);
            dueSame("block of bit " + bit, Reference.keyBlock(key, new byte[12], 0), blockOf(key, new byte[12], 0));
        }
    }

    /** From 56 bytes of a block on the 8 bytes of the length need another one. */
    private static void digestPadding() {
        for (int blocks : new int[] {0, 1, 2, 30, 31}) {
            for (int more : new int[] {0, 1, 54, 55, 56, 57, 62, 63, 64}) {
                dueDigest(Check.sample(64 * blocks + more, 3));
            }
        }
    }

    private static void digestLength() {
        for (int size : new int[] {0, 31, 32, 33, 255, 256, 1023, 1024, 2047, 2048}) {
            dueDigest(new byte[size]);
        }
    }

    private static void macLongKey() {
        byte[] text = Check.sample(20, 1);
        for (int size : new int[] {65, 66, 127, 128}) {
            byte[] key = Check.sample(size, 2);
            dueSame("mac under " + size, Reference.mac(key, text), macOf(key, text));
            dueSame("mac under the digest of " + size, macOf(digestOf(key), text), macOf(key, text));
            dueSame("stretch of " + size, stretchOf(digestOf(key), text, 40), stretchOf(key, text, 40));
            dueSame("label of " + size, labelOf(digestOf(key), 0, text, 40), labelOf(key, 0, text, 40));
        }
        for (int size : new int[] {63, 64}) {
            byte[] key = Check.sample(size, 2);
            dueSame("mac under " + size, Reference.mac(key, text), macOf(key, text));
            Check.same("mac under " + size + " is that under its digest", false,
                    Arrays.equals(macOf(digestOf(key), text), macOf(key, text)));
        }
    }

    private static void macShortKey() {
        byte[] text = Check.sample(20, 1);
        for (int size : new int[] {0, 1, 32, 63}) {
            byte[] key = Check.sample(size, 2);
            dueSame("mac under " + size, Reference.mac(key, text), macOf(key, text));
            dueSame("mac under " + size + " and 0s", macOf(Arrays.copyOf(key, 64), text), macOf(key, text));
        }
        SealBox box = new SealBox();
        Check.keep(box, 0, Check.sample(64, 2));
        Check.keep(box, 1, Check.sample(3, 5));
        box.mac(0);
        box.mac(1);
        Check.out("mac under 3 behind one under 64", box, Reference.mac(Check.sample(3, 5), NONE));
        Check.keep(box, 2, Check.sample(65, 6));
        box.mac(0);
        box.mac(2);
        Check.out("mac under 65 behind one under 64", box, Reference.mac(Check.sample(65, 6), NONE));
    }

    private static void stretchFirstPart() {
        byte[] key = Check.sample(32, 4);
        byte[] info = Check.sample(9, 4);
        byte[] first = macOf(key, Reference.join(info, new byte[] {1}));
        byte[] second = macOf(key, Reference.join(first, info, new byte[] {2}));
        dueSame("stretch to 64", Reference.join(first, second), stretchOf(key, info, 64));
        dueSame("stretch without info", macOf(key, new byte[] {1}), stretchOf(key, NONE, 32));
        byte[] all = stretchOf(key, info, 1024);
        dueSame("part 32", macOf(key, Reference.join(Arrays.copyOfRange(all, 960, 992), info, new byte[] {32})),
                Arrays.copyOfRange(all, 992, 1024));
    }

    private static void stretchIsCutOff() {
        byte[] key = Check.sample(32, 4);
        byte[] all = stretchOf(key, NONE, 1024);
        dueSame("stretch to 1024", Reference.stretch(key, NONE, 1024), all);
        for (int n : new int[] {1, 2, 31, 32, 33, 63, 64, 65, 992, 993, 1023}) {
            dueSame("stretch to " + n, Arrays.copyOf(all, n), stretchOf(key, NONE, n));
        }
    }

    /** A label is the stretch with an info, which is written out by hand here. */
    private static void labelInfo() {
        byte[] key = Check.sample(32, 4);
        dueSame("label 1 to 1", stretchOf(key, Check.bytes("0001" + "05" + "7631206976" + "00"), 1),
                labelOf(key, 1, NONE, 1));
        dueSame("label 1 to 255", stretchOf(key, Check.bytes("00ff" + "05" + "7631206976" + "00"), 255),
                labelOf(key, 1, NONE, 255));
        dueSame("label 1 to 256", stretchOf(key, Check.bytes("0100" + "05" + "7631206976" + "00"), 256),
                labelOf(key, 1, NONE, 256));
        dueSame("label 1 to 1024", stretchOf(key, Check.bytes("0400" + "05" + "7631206976" + "00"), 1024),
                labelOf(key, 1, NONE, 1024));
        dueSame("label 6 to 32", stretchOf(key, Check.bytes("0020" + "0a" + "76312067726565742061" + "0105"), 32),
                labelOf(key, 6, new byte[] {5}, 32));
        dueSame("label 10 to 32", stretchOf(key, Check.bytes("0020" + "07" + "763120646f6e65" + "0105"), 32),
                labelOf(key, 10, new byte[] {5}, 32));
    }

    private static SealBox boxWithContext(int size) {
        SealBox box = new SealBox();
        Check.keep(box, 3, Check.sample(32, 4));
        Check.feed(box, Check.sample(size, 5));
        return box;
    }

    private static void labelContext() {
        byte[] key = Check.sample(32, 4);
        for (int size : new int[] {0, 1, 127, 128, 254, 255}) {
            byte[] context = Check.sample(size, 5);
            byte[] info = Reference.join(Check.bytes("0020" + "0a" + "76312066697273742061"),
                    new byte[] {(byte) size}, context);
            dueSame("label 4 with " + size, stretchOf(key, info, 32), labelOf(key, 4, context, 32));
        }
        for (int size : new int[] {256, 257}) {
            Check.badState("label 4 with " + size, () -> boxWithContext(size), b -> b.label(3, 4, 32));
        }
    }

    private static void blockWords() {
        byte[] key = Check.sample(32, 6);
        byte[] nonce = Check.sample(12, 6);
        for (int counter : new int[] {0, 1, 255, 256, 65535, 65536, Integer.MAX_VALUE, Integer.MIN_VALUE, -2, -1}) {
            dueSame("block of counter " + counter, Reference.keyBlock(key, nonce, counter),
                    blockOf(key, nonce, counter));
        }
    }

    private static void tallyLastPiece() {
        dueTally(PLAIN_KEY, "05", "0501" + "00".repeat(14));
        dueTally(PLAIN_KEY, "00", "0001" + "00".repeat(14));
        dueTally(PLAIN_KEY, "07".repeat(15), "07".repeat(15) + "01");
        dueTally(PLAIN_KEY, "07".repeat(16), "07".repeat(16));
        dueTally(PLAIN_KEY, "07".repeat(17), "0e08" + "07".repeat(14));
        dueTally(PLAIN_KEY, "07".repeat(31), "0e".repeat(15) + "08");
        dueTally(PLAIN_KEY, "07".repeat(32), "0e".repeat(16));
        dueTally(PLAIN_KEY, "07".repeat(33), "150f" + "0e".repeat(14));
        for (int size : new int[] {2031, 2032, 2033, 2047, 2048}) {
            byte[] bytes = Check.sample(size, 7);
            dueTally(Check.hex(Check.sample(32, 7)), Check.hex(bytes),
                    Check.hex(Reference.tally(Check.sample(32, 7), bytes)));
        }
    }

    private static void tallyOfNothing() {
        dueTally(PLAIN_KEY, "", ZEROS);
        dueTally("09".repeat(16) + "ab".repeat(16), "", "ab".repeat(16));
        dueTally(ONES + ONES, "", ONES);
        SealBox box = new SealBox();
        Check.keep(box, 3, Check.bytes(PLAIN_KEY));
        for (int i = 0; i < 3; i++) {
            box.feed(1, 5);
            box.tally(3);
            Check.out("tally " + i + " of the same byte", box, "0501" + "00".repeat(14));
        }
    }

    /** With an R of 2 a piece p of 16 bytes makes 2 * (2^128 + p), which is 2^130 - 5 + more when p is high. */
    private static void tallyModulus() {
        String twoKey = "02" + "00".repeat(31);
        dueTally(twoKey, ONES, "03" + "00".repeat(15));
        dueTally(twoKey, "fe" + "ff".repeat(15), "01" + "00".repeat(15));
        dueTally(twoKey, "fd" + "ff".repeat(15), "fa" + "ff".repeat(15));
        // with an R of 1 three pieces have 3 * 2^128 and their sum: the last one brings it to the modulus
        dueTally(PLAIN_KEY, ZEROS + ZEROS + "fa" + "ff".repeat(15), "fa" + "ff".repeat(15));
        dueTally(PLAIN_KEY, ZEROS + ZEROS + "fb" + "ff".repeat(15), ZEROS);
        dueTally(PLAIN_KEY, ZEROS + ZEROS + "fc" + "ff".repeat(15), "01" + "00".repeat(15));
        dueTally(PLAIN_KEY, ZEROS + ZEROS + ONES, "04" + "00".repeat(15));
        dueTally(PLAIN_KEY, ZEROS + ZEROS + ZEROS + ZEROS, "05" + "00".repeat(15));
        // all bits but one: below the modulus from bit 3 on, wherever the missing one is
        for (int bit = 3; bit < 128; bit++) {
            byte[] piece = Check.repeat(255, 16);
            piece[bit / 8] ^= (byte) (1 << bit % 8);
            dueTally(PLAIN_KEY, ZEROS + ZEROS + Check.hex(piece), Check.hex(piece));
        }
    }

    private static void tallySum() {
        String one = "01" + "00".repeat(15);
        dueTally(one + ONES, ZEROS, ONES);
        dueTally(one + ONES, one, ZEROS);
        dueTally(one + ONES, "02" + "00".repeat(15), one);
        dueTally(one + ONES, ONES, "fe" + "ff".repeat(15));
        dueTally(one + "00000000ffffffff" + "0000000000000000", "0000000001000000" + "0000000000000000",
                "0000000000000000" + "0100000000000000");
    }

    private static void tallyKeyBits() {
        String kept = "ffffff0f" + "fcffff0f" + "fcffff0f" + "fcffff0f";
        for (int size : new int[] {1, 16, 40}) {
            byte[] bytes = Check.sample(size, 8);
            String due = Check.hex(Reference.tally(Check.bytes(kept + ZEROS), bytes));
            dueTally(kept + ZEROS, Check.hex(bytes), due);
            dueTally(ONES + ZEROS, Check.hex(bytes), due);
        }
        dueTally("000000f003000000" + "03000000030000f0" + ZEROS, ZEROS, ZEROS);
        dueTally("00000010" + "00".repeat(12) + ZEROS, "01", ZEROS);
        dueTally("00000008" + "00".repeat(12) + ZEROS, "01", "0000000808" + "00".repeat(11));
        dueTally("00000000" + "04" + "00".repeat(11) + ZEROS, "01", "000000000404" + "00".repeat(10));
    }
}
