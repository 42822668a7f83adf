import java.util.Arrays;

/** Promise 13: seal. */
public final class SealTest {
    private static final byte[] SECRET = Check.sample(32, 1);
    private static final byte[] KEY = Reference.label(SECRET, 0, new byte[0], 32);
    private static final byte[] IV = Reference.label(SECRET, 1, new byte[0], 12);

    public static void main(String[] args) {
        builtByHand();
        sizes();
        numbers();
        fullTape();
        refusals();
        Check.end();
    }

    private static void dueSeal(long number, byte[] packet, int head) {
        SealBox box = Check.armedBox(2, SECRET);
        Check.feed(box, packet);
        String call = "seal(2, " + number + ", " + head + ") of " + packet.length;
        Check.due(call, packet.length + 16, () -> box.seal(2, number, head));
        Check.out(call, box, Reference.seal(KEY, IV, number, packet, head));
        Check.due("the tape is read", 0, () -> box.look(0));
    }

    /** The document's words, with the box's own blocks and tallies. */
    private static void builtByHand() {
        byte[] packet = Check.sample(100, 2);
        byte[] nonce = Reference.nonce(IV, 0x0102030405060708L);
        byte[] covered = packet.clone();
        for (int i = 7; i < 100; i++) {
            covered[i] ^= blockOf(nonce, 1 + (i - 7) / 64)[(i - 7) % 64];
        }
        byte[] sizes = new byte[16];
        sizes[0] = 7;
        sizes[8] = 93;
        byte[] tallied = Reference.join(Arrays.copyOf(covered, 7), new byte[9],
                Arrays.copyOfRange(covered, 7, 100), new byte[3], sizes);
        SealBox box = new SealBox();
        Check.keep(box, 0, Arrays.copyOf(blockOf(nonce, 0), 32));
        Check.feed(box, tallied);
        box.tally(0);
        byte[] due = Reference.join(covered, Check.readOut(box));
        SealBox sealing = Check.armedBox(2, SECRET);
        Check.feed(sealing, packet);
        Check.due("seal of 100", 116, () -> sealing.seal(2, 0x0102030405060708L, 7));
        Check.out("seal of 100", sealing, due);
    }

    private static byte[] blockOf(byte[] nonce, int counter) {
        SealBox box = new SealBox();
        Check.keep(box, 0, KEY);
        Check.feed(box, nonce);
        box.block(0, counter);
        return Check.readOut(box);
    }

    private static void sizes() {
        for (int n : new int[] {0, 1, 15, 16, 17, 31, 32, 33, 63, 64, 65, 127, 128, 129, 200}) {
            for (int head : new int[] {0, 1, 15, 16, 17, 20, n - 1, n}) {
                if (head >= 0 && head <= n) {
                    dueSeal(5, Check.sample(n, 7), head);
                }
            }
        }
    }

    private static void numbers() {
        long[] numbers = {0, 1, 255, 256, 0x80000000L, 0xffffffffL, 1L << 62, Long.MAX_VALUE};
        for (long number : numbers) {
            dueSeal(number, Check.sample(30, 8), 3);
        }
    }

    /** Reading all of the OUT would be more than 512 calls: so its ends and some between. */
    private static void fullTape() {
        byte[] packet = Check.sample(2048, 9);
        SealBox box = Check.armedBox(2, SECRET);
        Check.feed(box, packet);
        Check.due("seal of 2048", 2064, () -> box.seal(2, 1, 0));
        byte[] due = Reference.seal(KEY, IV, 1, packet, 0);
        for (int k = 0; k < 2064; k += 13) {
            int at = k;
            Check.due("out(" + k + ") of 2064", due[k] & 255, () -> box.out(at));
        }
        for (int k = 2048; k < 2064; k++) {
            int at = k;
            Check.due("out(" + k + ") of 2064", due[k] & 255, () -> box.out(at));
        }
    }

    private static SealBox boxWithTen() {
        SealBox box = Check.armedBox(2, SECRET);
        Check.feed(box, Check.sample(10, 1));
        return box;
    }

    /** Guard 2 is armed and guard 1 is not: what is wrong with a call's arguments comes first for both. */
    private static void refusals() {
        Check.Maker maker = SealTest::boxWithTen;
        for (int guard : Check.NO_GUARDS) {
            Check.badArgument("seal(" + guard + ", 0, 0)", maker, b -> b.seal(guard, 0, 0));
        }
        for (int guard = 1; guard <= 2; guard++) {
            int g = guard;
            for (long number : new long[] {-1, Long.MIN_VALUE}) {
                Check.badArgument("seal(" + g + ", " + number + ", 0)", maker, b -> b.seal(g, number, 0));
            }
            for (int head : new int[] {-1, 11, Integer.MIN_VALUE, Integer.MAX_VALUE}) {
                Check.badArgument("seal(" + g + ", 0, " + head + ")", maker, b -> b.seal(g, 0, head));
            }
        }
        Check.badState("seal(1, 0, 0), not armed", maker, b -> b.seal(1, 0, 0));
        Check.badState("seal(1, 0, 10), not armed", maker, b -> b.seal(1, 0, 10));
        Check.badState("seal(0, 0, 0) of none, not armed", SealBox::new, b -> b.seal(0, 0, 0));
    }
}
