/** Promises 2 and 3: feed and wipe. */
public final class TapeTest {
    public static void main(String[] args) {
        order();
        negativeNumbers();
        wrongSizes();
        fullTape();
        wiping();
        Check.end();
    }

    private static SealBox boxWith(int size) {
        SealBox box = new SealBox();
        Check.feed(box, Check.sample(size, 4));
        return box;
    }

    /** What is on the tape is seen by sealing it: a head stays as it is. */
    private static void dueTape(String what, SealBox box, String hex) {
        box.seal(3, 0, hex.length() / 2);
        Check.same(what, hex, Check.hex(Check.readOut(box)).substring(0, hex.length()));
    }

    private static void order() {
        for (int n = 1; n <= 8; n++) {
            SealBox box = Check.armedBox(3, Check.sample(32, 1));
            int many = n;
            Check.due("feed(" + n + ", ..)", n, () -> box.feed(many, 0x8877665544332211L));
            Check.due("look(0) behind it", n, () -> box.look(0));
            dueTape("the tape of feed " + n, box, "1122334455667788".substring(0, 2 * n));
        }
        SealBox box = Check.armedBox(3, Check.sample(32, 1));
        Check.due("feed(3, ..)", 3, () -> box.feed(3, 0x030201));
        Check.due("feed(2, ..) behind 3", 5, () -> box.feed(2, 0x0504));
        Check.due("feed(8, ..) behind 5", 13, () -> box.feed(8, 0x0d0c0b0a09080706L));
        dueTape("the tape of three feeds", box, "0102030405060708090a0b0c0d");
    }

    private static void negativeNumbers() {
        SealBox box = Check.armedBox(3, Check.sample(32, 1));
        Check.due("feed(8, -1)", 8, () -> box.feed(8, -1));
        Check.due("feed(2, -2)", 10, () -> box.feed(2, -2));
        Check.due("feed(1, Long.MIN_VALUE)", 11, () -> box.feed(1, Long.MIN_VALUE));
        Check.due("feed(8, Long.MIN_VALUE)", 19, () -> box.feed(8, Long.MIN_VALUE));
        dueTape("the tape of negative numbers", box, "fffffffffffffffffeff000000000000000080");
    }

    private static void wrongSizes() {
        for (int n : new int[] {0, 9, -1, 64, Integer.MIN_VALUE, Integer.MAX_VALUE}) {
            Check.badArgument("feed(" + n + ", 1)", () -> boxWith(5), b -> b.feed(n, 1));
            Check.badArgument("feed(" + n + ", 1) of a full tape", () -> boxWith(2048), b -> b.feed(n, 1));
        }
    }

    private static void fullTape() {
        SealBox box = new SealBox();
        for (int i = 1; i <= 255; i++) {
            int due = 8 * i;
            Check.due("feed(8, ..)", due, () -> box.feed(8, due));
        }
        Check.due("feed(1, ..) to 2041", 2041, () -> box.feed(1, 0));
        Check.due("feed(7, ..) to 2048", 2048, () -> box.feed(7, 0));
        for (int n = 1; n <= 8; n++) {
            int many = n;
            Check.badState("feed(" + n + ", ..) to 2049", () -> boxWith(2049 - many), b -> b.feed(many, 0));
            Check.badState("feed(" + n + ", ..) of a full tape", () -> boxWith(2048), b -> b.feed(many, 0));
        }
        Check.due("wipe() of a full tape", 2048, box::wipe);
        Check.due("feed(8, ..) behind a wipe", 8, () -> box.feed(8, 0));
    }

    private static void wiping() {
        SealBox box = new SealBox();
        box.feed(8, 5);
        box.digest();
        Check.keep(box, 4, Check.sample(3, 1));
        String before = Check.stateOf(box);
        box.feed(8, 7);
        box.feed(3, 7);
        Check.due("wipe() of 11", 11, box::wipe);
        Check.same("the state behind feed and wipe", before, Check.stateOf(box));
        Check.due("wipe() of an empty tape", 0, box::wipe);
        box.feed(3, 0x636261);
        box.digest();
        Check.out("a digest behind a wipe", box, "ba7816bf8f01cfea414140de5dae2223b00361a396177a9cb410ff61f20015ad");
    }
}
