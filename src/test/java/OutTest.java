/** Promises 16 and 17: out and outs. */
public final class OutTest {
    public static void main(String[] args) {
        everyPlace();
        for (int size : new int[] {1, 5, 8, 21}) {
            beyond(() -> boxWith(size), size);
        }
        beyond(SealBox::new, 0);
        beyond(OutTest::boxEmptiedByOpen, 0);
        beyond(OutTest::boxWithAShorterOut, 5);
        highBytes();
        Check.end();
    }

    private static SealBox boxWith(int size) {
        SealBox box = new SealBox();
        Check.keep(box, 0, Check.sample(32, 1));
        box.stretch(0, size);
        box.feed(8, 1);
        return box;
    }

    private static SealBox boxEmptiedByOpen() {
        SealBox box = boxWith(21);
        box.arm(0, 0);
        Check.feed(box, new byte[16]);
        box.open(0, 0, 0);
        return box;
    }

    private static SealBox boxWithAShorterOut() {
        SealBox box = boxWith(21);
        box.stretch(0, 5);
        return box;
    }

    private static void everyPlace() {
        SealBox box = boxWith(21);
        byte[] due = Reference.stretch(Check.sample(32, 1), new byte[0], 21);
        for (int k = 0; k < 21; k++) {
            int at = k;
            Check.due("out(" + k + ")", due[k] & 255, () -> box.out(at));
            Check.due("outs(" + k + ")", lowestFirst(due, k), () -> box.outs(at));
        }
    }

    private static long lowestFirst(byte[] bytes, int k) {
        long number = 0;
        for (int i = Math.min(bytes.length, k + 8) - 1; i >= k; i--) {
            number = number * 256 + (bytes[i] & 255);
        }
        return number;
    }

    private static void beyond(Check.Maker maker, int size) {
        for (int k : new int[] {size, size + 1, 2063, 2064, -1, Integer.MIN_VALUE, Integer.MAX_VALUE}) {
            Check.noElement("out(" + k + ") of " + size, maker, b -> b.out(k));
            Check.noElement("outs(" + k + ") of " + size, maker, b -> b.outs(k));
        }
    }

    /** A head of bytes 255 shows that no byte is taken for a negative number. */
    private static void highBytes() {
        SealBox box = new SealBox();
        Check.keep(box, 0, Check.sample(32, 1));
        box.arm(0, 0);
        box.feed(8, -1);
        box.feed(8, 0x80L);
        box.seal(0, 0, 16);
        Check.due("out(0) of 255", 255, () -> box.out(0));
        Check.due("outs(0) of 255", -1, () -> box.outs(0));
        Check.due("out(8) of 128", 128, () -> box.out(8));
        Check.due("outs(1)", 0x80ffffffffffffffL, () -> box.outs(1));
        Check.due("outs(4)", 0x80ffffffffL, () -> box.outs(4));
    }
}
