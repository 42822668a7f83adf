/** Promises 2, 4, 16, 17 and 18: each 'Throws ..' clause, on both sides of each bound that it names. */
public final class StoreBoundsTest {
    private static final byte[] NONE = new byte[0];
    private static final byte[] KEY = Check.sample(32, 1);

    public static void main(String[] args) {
        Check.sentence("feed: IllegalArgumentException when n is not 1 .. 8;", StoreBoundsTest::feedSizes);
        Check.sentence("feed: IllegalStateException when it would have more than 2048.", StoreBoundsTest::feedRoom);
        Check.sentence("keep: IllegalArgumentException when there is no such slot;", StoreBoundsTest::keepSlots);
        Check.sentence("keep: IllegalStateException when there are more than 128.", StoreBoundsTest::keepSizes);
        Check.sentence("out: NoSuchElementException when there is none.", StoreBoundsTest::outBytes);
        Check.sentence("outs: The OUT's bytes from k on, eight at most", StoreBoundsTest::outsEight);
        Check.sentence("outs: NoSuchElementException when there is no byte k.", StoreBoundsTest::outsBytes);
        Check.sentence("look: 10 .. 13 the guards' phases (-1: not armed).", StoreBoundsTest::lookPhases);
        Check.sentence("look: NoSuchElementException for another what.", StoreBoundsTest::lookOther);
        Check.end();
    }

    private static void feedSizes() {
        for (int n : new int[] {1, 8}) {
            Check.due("feed(" + n + ", 0)", n, () -> new SealBox().feed(n, 0));
        }
        for (int n : new int[] {0, 9, -1, Integer.MIN_VALUE, Integer.MAX_VALUE}) {
            Check.badArgument("feed(" + n + ", 0)", () -> Check.boxWithTape(3), b -> b.feed(n, 0));
        }
    }

    private static void feedRoom() {
        for (int n = 1; n <= 8; n++) {
            int many = n;
            Check.due("feed of " + n + " to 2048", 2048, () -> Check.boxWithTape(2048 - many).feed(many, 0));
            for (int over = 1; over <= n; over++) {
                int size = 2048 - many + over;
                Check.badState("feed of " + n + " behind " + size, () -> Check.boxWithTape(size),
                        b -> b.feed(many, 0));
            }
        }
    }

    private static void keepSlots() {
        Check.Maker maker = () -> Check.boxWithKeys(KEY, 5);
        for (boolean out : new boolean[] {false, true}) {
            for (int slot : new int[] {0, 7}) {
                Check.due("keep(" + slot + ", " + out + ")", out ? 40 : 5, () -> maker.make().keep(slot, out));
            }
            for (int slot : Check.NO_SLOTS) {
                Check.badArgument("keep(" + slot + ", " + out + ")", maker, b -> b.keep(slot, out));
            }
        }
    }

    /** So many bytes in the OUT, and 3 on the tape. */
    private static SealBox boxWithOut(int size) {
        SealBox box = Check.boxWithKeys(KEY, 0);
        box.stretch(0, size);
        box.feed(3, 3);
        return box;
    }

    private static void keepSizes() {
        for (int size : new int[] {0, 127, 128}) {
            Check.due("keep(4, false) of " + size, size, () -> Check.boxWithKeys(KEY, size).keep(4, false));
        }
        for (int size : new int[] {1, 127, 128}) {
            Check.due("keep(4, true) of " + size, size, () -> boxWithOut(size).keep(4, true));
        }
        Check.due("keep(4, true) of none", 0, () -> new SealBox().keep(4, true));
        for (int size : new int[] {129, 130, 256}) {
            Check.badState("keep(4, false) of " + size, () -> Check.boxWithKeys(KEY, size), b -> b.keep(4, false));
            Check.badState("keep(4, true) of " + size, () -> boxWithOut(size), b -> b.keep(4, true));
        }
        Check.badState("keep(4, false) of 2048", () -> Check.boxWithKeys(KEY, 2048), b -> b.keep(4, false));
        Check.badState("keep(4, true) of 1024", () -> boxWithOut(1024), b -> b.keep(4, true));
    }

    private static void outBytes() {
        for (int size : new int[] {1, 2, 1024}) {
            byte[] due = Reference.stretch(KEY, NONE, size);
            SealBox box = boxWithOut(size);
            for (int k : new int[] {0, size - 1}) {
                Check.due("out(" + k + ") of " + size, due[k] & 255, () -> box.out(k));
            }
            for (int k : new int[] {-1, size, size + 1, Integer.MIN_VALUE, Integer.MAX_VALUE}) {
                Check.noElement("out(" + k + ") of " + size, () -> boxWithOut(size), b -> b.out(k));
            }
        }
        Check.noElement("out(0) of none", SealBox::new, b -> b.out(0));
    }

    /** The digest of nothing is e3 b0 c4 42 98 fc 1c 14 .. 4c a4 95 99 1b 78 52 b8 55. */
    private static void outsEight() {
        SealBox box = Check.boxWithKeys(KEY, 0);
        // bytes of an earlier OUT stand behind those of this one, and do not count
        box.stretch(0, 1024);
        box.digest();
        Check.due("outs(0)", 0x141cfc9842c4b0e3L, () -> box.outs(0));
        Check.due("outs(23), eight of nine", 0xb852781b9995a44cL, () -> box.outs(23));
        Check.due("outs(24), all eight", 0x55b852781b9995a4L, () -> box.outs(24));
        Check.due("outs(25), seven", 0x55b852781b9995L, () -> box.outs(25));
        Check.due("outs(30), two", 0x55b8L, () -> box.outs(30));
        Check.due("outs(31), one", 0x55, () -> box.outs(31));
    }

    private static void outsBytes() {
        for (int size : new int[] {1, 2, 1024}) {
            byte[] due = Reference.stretch(KEY, NONE, size);
            Check.due("outs(" + (size - 1) + ") of " + size, due[size - 1] & 255,
                    () -> boxWithOut(size).outs(size - 1));
            for (int k : new int[] {-1, -8, size, size + 1, Integer.MIN_VALUE, Integer.MAX_VALUE}) {
                Check.noElement("outs(" + k + ") of " + size, () -> boxWithOut(size), b -> b.outs(k));
            }
        }
        Check.noElement("outs(0) of none", SealBox::new, b -> b.outs(0));
    }

    /** Guard 0 is armed, guard 3 turned too. */
    private static SealBox boxForLooks() {
        SealBox box = Check.boxWithKeys(KEY, 6);
        box.arm(0, 0);
        box.arm(3, 0);
        box.turn(3);
        return box;
    }

    private static void lookPhases() {
        SealBox box = boxForLooks();
        Check.due("look(10)", 0, () -> box.look(10));
        Check.due("look(11)", -1, () -> box.look(11));
        Check.due("look(12)", -1, () -> box.look(12));
        Check.due("look(13)", 1, () -> box.look(13));
        box.turn(3);
        Check.due("look(13) behind another turn", 0, () -> box.look(13));
    }

    private static void lookOther() {
        SealBox box = boxForLooks();
        Check.due("look(0)", 6, () -> box.look(0));
        Check.due("look(1)", 40, () -> box.look(1));
        Check.due("look(2)", 32, () -> box.look(2));
        Check.due("look(9)", 32, () -> box.look(9));
        Check.due("look(10)", 0, () -> box.look(10));
        Check.due("look(13)", 1, () -> box.look(13));
        for (int what : new int[] {-1, 14, Integer.MIN_VALUE, Integer.MAX_VALUE}) {
            Check.noElement("look(" + what + ")", StoreBoundsTest::boxForLooks, b -> b.look(what));
        }
    }
}
