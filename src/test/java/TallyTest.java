import java.math.BigInteger;

/** Promise 10: tally. */
public final class TallyTest {
    private static final String ONES = "ff".repeat(16);
    private static final String ZEROS = "00".repeat(16);

    public static void main(String[] args) {
        knownAnswers();
        edgesOfTheModulus();
        smallRemainders();
        sizes();
        oneBitKeys();
        refusals();
        Check.end();
    }

    private static void dueTally(byte[] key, byte[] text, String hex) {
        SealBox box = new SealBox();
        Check.keep(box, 4, key);
        Check.feed(box, text);
        box.tally(4);
        Check.out("tally of " + Check.hex(text) + " under " + Check.hex(key), box, hex);
        Check.due("the tape is read", 0, () -> box.look(0));
        Check.due("the slot stays", 32, () -> box.look(6));
    }

    private static void dueAsReference(byte[] key, byte[] text) {
        dueTally(key, text, Check.hex(Reference.tally(key, text)));
    }

    private static void knownAnswers() {
        byte[] key = Check.bytes("85d6be7857556d337f4452fe42d506a80103808afb0db2fd4abff6af4149f51b");
        dueTally(key, Check.text("Cryptographic Forum Research Group"), "a8061dc1305136c6c22b8baf0c0127a9");
        dueTally(key, new byte[0], "0103808afb0db2fd4abff6af4149f51b");
    }

    /** Sums just below, at and just above 2^130 - 5 and 2^128 (the vectors of RFC 8439, A.3). */
    private static void edgesOfTheModulus() {
        String one = "01" + "00".repeat(15);
        String two = "02" + "00".repeat(15);
        dueTally(Check.bytes(two + ZEROS), Check.bytes(ONES), "03" + "00".repeat(15));
        dueTally(Check.bytes(two + ONES), Check.bytes(two), "03" + "00".repeat(15));
        dueTally(Check.bytes(one + ZEROS), Check.bytes(ONES + "f0" + "ff".repeat(15) + "11" + "00".repeat(15)),
                "05" + "00".repeat(15));
        dueTally(Check.bytes(one + ZEROS), Check.bytes(ONES + "fb" + "fe".repeat(15) + "01".repeat(16)), ZEROS);
        dueTally(Check.bytes(two + ZEROS), Check.bytes("fd" + "ff".repeat(15)), "fa" + "ff".repeat(15));
        for (int last = 0; last < 256; last++) {
            byte[] text = Check.bytes(ONES + "fb" + "fe".repeat(15) + "01".repeat(16));
            text[32] = (byte) last;
            dueAsReference(Check.bytes(one + ZEROS), text);
        }
        for (int last = 0; last < 256; last++) {
            byte[] text = Check.repeat(255, 32);
            text[16] = (byte) last;
            dueAsReference(Check.bytes(one + ZEROS), text);
        }
        dueAsReference(Check.repeat(255, 32), Check.repeat(255, 2048));
        dueAsReference(Check.repeat(255, 32), Check.repeat(255, 2047));
        dueAsReference(Check.repeat(255, 32), new byte[2048]);
    }

    /** Texts made so that A is a small number in the end, which a product far above the modulus has to come down to. */
    private static void smallRemainders() {
        BigInteger prime = BigInteger.TWO.pow(130).subtract(BigInteger.valueOf(5));
        for (int seed = 0; seed < 40; seed++) {
            byte[] key = Check.sample(32, seed);
            BigInteger backwards = Reference.multiplier(key).modInverse(prime);
            for (int shift : new int[] {0, 26, 27, 32, 52, 78, 104, 128}) {
                for (int j = -6; j <= 6; j++) {
                    BigInteger due = BigInteger.ONE.shiftLeft(shift).add(BigInteger.valueOf(j)).mod(prime);
                    BigInteger piece = due.multiply(backwards).mod(prime).subtract(BigInteger.TWO.pow(128));
                    if (piece.signum() >= 0 && piece.bitLength() <= 128) {
                        dueAsReference(key, lowestFirst(piece));
                    }
                }
            }
        }
    }

    private static byte[] lowestFirst(BigInteger number) {
        byte[] bytes = new byte[16];
        for (int i = 0; i < 16; i++) {
            bytes[i] = number.shiftRight(8 * i).byteValue();
        }
        return bytes;
    }

    private static void sizes() {
        for (int n = 0; n <= 70; n++) {
            dueAsReference(Check.sample(32, n), Check.sample(n, 5));
        }
        dueAsReference(Check.sample(32, 1), Check.sample(2048, 5));
    }

    /** Shows which bits of R count. */
    private static void oneBitKeys() {
        for (int bit = 0; bit < 256; bit++) {
            byte[] key = new byte[32];
            key[bit / 8] = (byte) (1 << bit % 8);
            dueAsReference(key, Check.sample(40, 1));
        }
    }

    /** Slot 1 has a byte too few, slot 2 one too many, slot 0 nothing. */
    private static SealBox boxWithWrongKeys() {
        SealBox box = new SealBox();
        Check.keep(box, 1, Check.sample(31, 1));
        Check.keep(box, 2, Check.sample(33, 1));
        box.feed(8, 8);
        return box;
    }

    private static void refusals() {
        for (int slot = 0; slot <= 2; slot++) {
            int wrong = slot;
            Check.badState("tally(" + slot + ")", TallyTest::boxWithWrongKeys, b -> b.tally(wrong));
        }
        for (int slot : Check.NO_SLOTS) {
            Check.badArgument("tally(" + slot + ")", TallyTest::boxWithWrongKeys, b -> b.tally(slot));
        }
    }
}
