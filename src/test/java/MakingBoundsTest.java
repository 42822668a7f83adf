/** Promises 6 to 10: each 'Throws ..' clause, on both sides of each bound that it names. */
public final class MakingBoundsTest {
    private static final int[] NO_SIZES = {0, 1025, -1, Integer.MIN_VALUE, Integer.MAX_VALUE};
    private static final int[] NOT_32 = {0, 31, 33, 128};
    private static final byte[] KEY = Check.sample(32, 1);
    private static final byte[] FIVE = Check.sample(5, 2);
    private static final Check.Maker BOX_WITH_5 = () -> Check.boxWithKeys(KEY, 5);
    private static final Check.Maker BOX_WITH_12 = () -> Check.boxWithKeys(KEY, 12);

    public static void main(String[] args) {
        Check.sentence("mac: IllegalArgumentException when there is no such slot.", MakingBoundsTest::macSlots);
        Check.sentence("stretch: IllegalArgumentException when there is no such slot,",
                MakingBoundsTest::stretchSlots);
        Check.sentence("stretch: or n is not 1 .. 1024.", MakingBoundsTest::stretchSizes);
        Check.sentence("label: IllegalArgumentException when there is no such slot", MakingBoundsTest::labelSlots);
        Check.sentence("label: no such .. label,", MakingBoundsTest::labelTexts);
        Check.sentence("label: or n is not 1 .. 1024;", MakingBoundsTest::labelSizes);
        Check.sentence("label: IllegalStateException when the tape has more than 255.",
                MakingBoundsTest::labelContexts);
        Check.sentence("block: IllegalArgumentException when there is no such slot;", MakingBoundsTest::blockSlots);
        Check.sentence("block: IllegalStateException when the slot has not 32 bytes,", MakingBoundsTest::blockKeys);
        Check.sentence("block: or the tape not 12.", MakingBoundsTest::blockNonces);
        Check.sentence("tally: IllegalArgumentException when there is no such slot;", MakingBoundsTest::tallySlots);
        Check.sentence("tally: IllegalStateException when it has not 32 bytes.", MakingBoundsTest::tallyKeys);
        Check.end();
    }

    private static void dueOut(String call, byte[] want, Check.Maker maker, Check.Use use) {
        Check.out(call, Check.after(call, maker, use), want);
    }

    private static void macSlots() {
        for (int slot : new int[] {0, 7}) {
            dueOut("mac(" + slot + ")", Reference.mac(KEY, FIVE), BOX_WITH_5, b -> b.mac(slot));
        }
        for (int slot : Check.NO_SLOTS) {
            Check.badArgument("mac(" + slot + ")", BOX_WITH_5, b -> b.mac(slot));
        }
    }

    private static void stretchSlots() {
        for (int slot : new int[] {0, 7}) {
            dueOut("stretch(" + slot + ", 33)", Reference.stretch(KEY, FIVE, 33), BOX_WITH_5,
                    b -> b.stretch(slot, 33));
        }
        for (int slot : Check.NO_SLOTS) {
            Check.badArgument("stretch(" + slot + ", 33)", BOX_WITH_5, b -> b.stretch(slot, 33));
        }
    }

    private static void stretchSizes() {
        for (int n : new int[] {1, 2, 1023, 1024}) {
            dueOut("stretch(4, " + n + ")", Reference.stretch(KEY, FIVE, n), BOX_WITH_5, b -> b.stretch(4, n));
        }
        for (int n : NO_SIZES) {
            Check.badArgument("stretch(4, " + n + ")", BOX_WITH_5, b -> b.stretch(4, n));
        }
    }

    private static void labelSlots() {
        for (int slot : new int[] {0, 7}) {
            dueOut("label(" + slot + ", 4, 33)", Reference.label(KEY, 4, FIVE, 33), BOX_WITH_5,
                    b -> b.label(slot, 4, 33));
        }
        for (int slot : Check.NO_SLOTS) {
            Check.badArgument("label(" + slot + ", 4, 33)", BOX_WITH_5, b -> b.label(slot, 4, 33));
        }
    }

    private static void labelTexts() {
        for (int w = 0; w <= 10; w++) {
            int label = w;
            dueOut("label(4, " + w + ", 33)", Reference.label(KEY, w, FIVE, 33), BOX_WITH_5,
                    b -> b.label(4, label, 33));
        }
        for (int w : new int[] {-1, 11, Integer.MIN_VALUE, Integer.MAX_VALUE}) {
            Check.badArgument("label(4, " + w + ", 33)", BOX_WITH_5, b -> b.label(4, w, 33));
        }
    }

    private static void labelSizes() {
        for (int n : new int[] {1, 2, 1023, 1024}) {
            dueOut("label(4, 10, " + n + ")", Reference.label(KEY, 10, FIVE, n), BOX_WITH_5,
                    b -> b.label(4, 10, n));
        }
        for (int n : NO_SIZES) {
            Check.badArgument("label(4, 10, " + n + ")", BOX_WITH_5, b -> b.label(4, 10, n));
        }
    }

    private static void labelContexts() {
        for (int size : new int[] {0, 254, 255}) {
            dueOut("label(4, 1, 9) with " + size, Reference.label(KEY, 1, Check.sample(size, 2), 9),
                    () -> Check.boxWithKeys(KEY, size), b -> b.label(4, 1, 9));
        }
        for (int size : new int[] {256, 257, 511, 512, 2048}) {
            Check.badState("label(4, 1, 9) with " + size, () -> Check.boxWithKeys(KEY, size), b -> b.label(4, 1, 9));
        }
    }

    private static void blockSlots() {
        for (int slot : new int[] {0, 7}) {
            dueOut("block(" + slot + ", 3)", Reference.keyBlock(KEY, Check.sample(12, 2), 3), BOX_WITH_12,
                    b -> b.block(slot, 3));
        }
        for (int slot : Check.NO_SLOTS) {
            Check.badArgument("block(" + slot + ", 3)", BOX_WITH_12, b -> b.block(slot, 3));
        }
    }

    private static void blockKeys() {
        Check.after("block under 32", BOX_WITH_12, b -> b.block(4, 3));
        for (int size : NOT_32) {
            Check.badState("block under " + size, () -> Check.boxWithKeys(Check.sample(size, 1), 12),
                    b -> b.block(4, 3));
        }
    }

    private static void blockNonces() {
        Check.after("block with 12", BOX_WITH_12, b -> b.block(4, 3));
        for (int size : new int[] {0, 11, 13, 32, 2048}) {
            Check.badState("block with " + size, () -> Check.boxWithKeys(KEY, size), b -> b.block(4, 3));
        }
    }

    private static void tallySlots() {
        for (int slot : new int[] {0, 7}) {
            dueOut("tally(" + slot + ")", Reference.tally(KEY, FIVE), BOX_WITH_5, b -> b.tally(slot));
        }
        for (int slot : Check.NO_SLOTS) {
            Check.badArgument("tally(" + slot + ")", BOX_WITH_5, b -> b.tally(slot));
        }
    }

    private static void tallyKeys() {
        Check.after("tally under 32", BOX_WITH_5, b -> b.tally(4));
        for (int size : NOT_32) {
            Check.badState("tally under " + size, () -> Check.boxWithKeys(Check.sample(size, 1), 5),
                    b -> b.tally(4));
        }
    }
}
