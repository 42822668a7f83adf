import java.util.Arrays;

/** Promises 2 to 18: each 'Throws ..' clause, on both sides of each bound that it names. */
public final class BoundsTest {
    private static final int[] NO_SLOTS = {-1, 8, Integer.MIN_VALUE, Integer.MAX_VALUE};
    private static final int[] NO_GUARDS = {-1, 4, Integer.MIN_VALUE, Integer.MAX_VALUE};
    private static final int[] NO_SIZES = {0, 1025, -1, Integer.MIN_VALUE, Integer.MAX_VALUE};
    private static final int[] NOT_32 = {0, 31, 33, 128};
    private static final byte[] NONE = new byte[0];
    private static final byte[] KEY = Check.sample(32, 1);

    public static void main(String[] args) {
        feed();
        keepSlots();
        keepSizes();
        mac();
        stretch();
        labelArguments();
        labelContext();
        blockSlots();
        blockSizes();
        tally();
        arm();
        turn();
        sealArguments();
        sealHeads();
        openArguments();
        openHeads();
        shieldArguments();
        shieldPlaces();
        notArmed();
        out();
        outs();
        look();
        Check.end();
    }

    private static SealBox boxWithTape(int size) {
        SealBox box = new SealBox();
        Check.feed(box, Check.sample(size, 2));
        return box;
    }

    /** All slots have the same key; the OUT has 40 bytes, so that a call that is refused could spoil it. */
    private static SealBox boxWith(byte[] key, int size) {
        SealBox box = new SealBox();
        for (int slot = 0; slot < 8; slot++) {
            Check.keep(box, slot, key);
        }
        box.stretch(0, 40);
        Check.feed(box, Check.sample(size, 2));
        return box;
    }

    /** Guards 0 and 3 are armed, 1 and 2 not. */
    private static SealBox boxWithGuards(byte[] tape) {
        SealBox box = boxWith(KEY, 0);
        box.arm(0, 0);
        box.arm(3, 7);
        Check.feed(box, tape);
        return box;
    }

    private static void feed() {
        Check.sentence("Throws IllegalArgumentException when n is not 1 .. 8;"
                + " IllegalStateException when it would have more than 2048.");
        for (int n : new int[] {1, 8}) {
            Check.due("feed(" + n + ", 0)", n, () -> boxWithTape(0).feed(n, 0));
        }
        for (int n : new int[] {0, 9, -1, Integer.MIN_VALUE, Integer.MAX_VALUE}) {
            Check.badArgument("feed(" + n + ", 0)", () -> boxWithTape(3), b -> b.feed(n, 0));
        }
        for (int n = 1; n <= 8; n++) {
            int many = n;
            Check.due("feed to 2048", 2048, () -> boxWithTape(2048 - many).feed(many, 0));
            Check.badState("feed to 2049", () -> boxWithTape(2049 - many), b -> b.feed(many, 0));
        }
    }

    private static void keepSlots() {
        Check.sentence("keep: Throws IllegalArgumentException when there is no such slot;");
        for (boolean out : new boolean[] {false, true}) {
            for (int slot : new int[] {0, 7}) {
                Check.due("keep(" + slot + ", " + out + ")", out ? 40 : 5, () -> boxWith(KEY, 5).keep(slot, out));
            }
            for (int slot : NO_SLOTS) {
                Check.badArgument("keep(" + slot + ", " + out + ")", () -> boxWith(KEY, 5), b -> b.keep(slot, out));
            }
        }
    }

    /** A box with so many bytes in the OUT, and 3 on the tape. */
    private static SealBox boxWithOut(int size) {
        SealBox box = boxWith(KEY, 0);
        box.stretch(0, size);
        box.feed(3, 3);
        return box;
    }

    private static void keepSizes() {
        Check.sentence("keep: IllegalStateException when there are more than 128.");
        for (int size : new int[] {0, 127, 128}) {
            Check.due("keep(4, false) of " + size, size, () -> boxWith(KEY, size).keep(4, false));
        }
        for (int size : new int[] {1, 127, 128}) {
            Check.due("keep(4, true) of " + size, size, () -> boxWithOut(size).keep(4, true));
        }
        Check.due("keep(4, true) of none", 0, () -> new SealBox().keep(4, true));
        for (int size : new int[] {129, 130, 256}) {
            Check.badState("keep(4, false) of " + size, () -> boxWith(KEY, size), b -> b.keep(4, false));
            Check.badState("keep(4, true) of " + size, () -> boxWithOut(size), b -> b.keep(4, true));
        }
        Check.badState("keep(4, false) of 2048", () -> boxWith(KEY, 2048), b -> b.keep(4, false));
        Check.badState("keep(4, true) of 1024", () -> boxWithOut(1024), b -> b.keep(4, true));
    }

    private static void mac() {
        Check.sentence("mac: Throws IllegalArgumentException when there is no such slot.");
        for (int slot : new int[] {0, 7}) {
            String call = "mac(" + slot + ")";
            SealBox box = Check.after(call, () -> boxWith(KEY, 5), b -> b.mac(slot));
            Check.out(call, box, Reference.mac(KEY, Check.sample(5, 2)));
        }
        for (int slot : NO_SLOTS) {
            Check.badArgument("mac(" + slot + ")", () -> boxWith(KEY, 5), b -> b.mac(slot));
        }
    }

    private static void stretch() {
        Check.sentence("stretch: Throws IllegalArgumentException when there is no such slot, or n is not 1 .. 1024.");
        for (int slot : new int[] {0, 7}) {
            for (int n : new int[] {1, 1024}) {
                String call = "stretch(" + slot + ", " + n + ")";
                SealBox box = Check.after(call, () -> boxWith(KEY, 5), b -> b.stretch(slot, n));
                Check.out(call, box, Reference.stretch(KEY, Check.sample(5, 2), n));
            }
        }
        for (int slot : NO_SLOTS) {
            Check.badArgument("stretch(" + slot + ", 1)", () -> boxWith(KEY, 5), b -> b.stretch(slot, 1));
        }
        for (int n : NO_SIZES) {
            Check.badArgument("stretch(0, " + n + ")", () -> boxWith(KEY, 5), b -> b.stretch(0, n));
        }
    }

    private static void labelArguments() {
        Check.sentence("Throws IllegalArgumentException when there is no such slot or label, or n is not 1 .. 1024;");
        for (int slot : new int[] {0, 7}) {
            for (int w : new int[] {0, 10}) {
                for (int n : new int[] {1, 1024}) {
                    String call = "label(" + slot + ", " + w + ", " + n + ")";
                    SealBox box = Check.after(call, () -> boxWith(KEY, 5), b -> b.label(slot, w, n));
                    Check.out(call, box, Reference.label(KEY, w, Check.sample(5, 2), n));
                }
            }
        }
        for (int slot : NO_SLOTS) {
            Check.badArgument("label(" + slot + ", 0, 1)", () -> boxWith(KEY, 5), b -> b.label(slot, 0, 1));
        }
        for (int w : new int[] {-1, 11, Integer.MIN_VALUE, Integer.MAX_VALUE}) {
            Check.badArgument("label(0, " + w + ", 1)", () -> boxWith(KEY, 5), b -> b.label(0, w, 1));
        }
        for (int n : NO_SIZES) {
            Check.badArgument("label(0, 0, " + n + ")", () -> boxWith(KEY, 5), b -> b.label(0, 0, n));
        }
    }

    private static void labelContext() {
        Check.sentence("label: IllegalStateException when the tape has more than 255.");
        for (int size : new int[] {0, 254, 255}) {
            SealBox box = Check.after("label(0, 1, 9) with " + size, () -> boxWith(KEY, size), b -> b.label(0, 1, 9));
            Check.out("label(0, 1, 9) with " + size, box, Reference.label(KEY, 1, Check.sample(size, 2), 9));
        }
        for (int size : new int[] {256, 257, 511, 512, 2048}) {
            Check.badState("label(0, 1, 9) with " + size, () -> boxWith(KEY, size), b -> b.label(0, 1, 9));
        }
    }

    private static void blockSlots() {
        Check.sentence("block: Throws IllegalArgumentException when there is no such slot;");
        for (int slot : new int[] {0, 7}) {
            for (int counter : new int[] {0, -1, Integer.MIN_VALUE, Integer.MAX_VALUE}) {
                String call = "block(" + slot + ", " + counter + ")";
                SealBox box = Check.after(call, () -> boxWith(KEY, 12), b -> b.block(slot, counter));
                Check.out(call, box, Reference.keyBlock(KEY, Check.sample(12, 2), counter));
            }
        }
        for (int slot : NO_SLOTS) {
            Check.badArgument("block(" + slot + ", 0)", () -> boxWith(KEY, 12), b -> b.block(slot, 0));
        }
    }

    private static void blockSizes() {
        Check.sentence("block: IllegalStateException when the slot has not 32 bytes, or the tape not 12.");
        for (int size : NOT_32) {
            Check.badState("block under " + size, () -> boxWith(Check.sample(size, 1), 12), b -> b.block(3, 0));
        }
        for (int size : new int[] {0, 11, 13, 32, 2048}) {
            Check.badState("block with " + size, () -> boxWith(KEY, size), b -> b.block(3, 0));
        }
    }

    private static void tally() {
        Check.sentence("tally: Throws IllegalArgumentException when there is no such slot;"
                + " IllegalStateException when it has not 32 bytes.");
        for (int slot : new int[] {0, 7}) {
            String call = "tally(" + slot + ")";
            SealBox box = Check.after(call, () -> boxWith(KEY, 5), b -> b.tally(slot));
            Check.out(call, box, Reference.tally(KEY, Check.sample(5, 2)));
        }
        for (int slot : NO_SLOTS) {
            Check.badArgument("tally(" + slot + ")", () -> boxWith(KEY, 5), b -> b.tally(slot));
        }
        for (int size : NOT_32) {
            Check.badState("tally under " + size, () -> boxWith(Check.sample(size, 1), 5), b -> b.tally(3));
        }
    }

    private static void arm() {
        Check.sentence("Throws IllegalArgumentException when there is no such guard or slot;"
                + " IllegalStateException when the slot has not 32 bytes.");
        for (int guard : new int[] {0, 3}) {
            for (int slot : new int[] {0, 7}) {
                String call = "arm(" + guard + ", " + slot + ")";
                SealBox box = Check.after(call, () -> boxWith(KEY, 5), b -> b.arm(guard, slot));
                Check.due("the phase behind " + call, 0, () -> box.look(10 + guard));
            }
        }
        for (int guard : NO_GUARDS) {
            Check.badArgument("arm(" + guard + ", 0)", () -> boxWith(KEY, 5), b -> b.arm(guard, 0));
        }
        for (int slot : NO_SLOTS) {
            Check.badArgument("arm(0, " + slot + ")", () -> boxWith(KEY, 5), b -> b.arm(0, slot));
        }
        for (int size : NOT_32) {
            Check.badState("arm with " + size, () -> boxWith(Check.sample(size, 1), 5), b -> b.arm(0, 0));
        }
    }

    private static void turn() {
        Check.sentence("turn: Throws IllegalArgumentException when there is none;"
                + " IllegalStateException when it is not armed.");
        Check.Maker maker = () -> boxWithGuards(Check.sample(5, 2));
        for (int guard : new int[] {0, 3}) {
            Check.due("turn(" + guard + ")", 1, () -> maker.make().turn(guard));
        }
        for (int guard : NO_GUARDS) {
            Check.badArgument("turn(" + guard + ")", maker, b -> b.turn(guard));
        }
        for (int guard : new int[] {1, 2}) {
            Check.badState("turn(" + guard + ")", maker, b -> b.turn(guard));
        }
    }

    private static byte[] sealed(long number, byte[] packet, int head) {
        return Reference.seal(Reference.label(KEY, 0, NONE, 32), Reference.label(KEY, 1, NONE, 12),
                number, packet, head);
    }

    private static void sealArguments() {
        Check.sentence("seal: Throws IllegalArgumentException when there is no such guard, number is below 0,");
        byte[] packet = Check.sample(10, 2);
        Check.Maker maker = () -> boxWithGuards(packet);
        for (int guard : new int[] {0, 3}) {
            for (long number : new long[] {0, 1, Long.MAX_VALUE}) {
                String call = "seal(" + guard + ", " + number + ", 4)";
                SealBox box = Check.after(call, maker, b -> b.seal(guard, number, 4));
                Check.out(call, box, sealed(number, packet, 4));
            }
        }
        for (int guard : NO_GUARDS) {
            Check.badArgument("seal(" + guard + ", 0, 4)", maker, b -> b.seal(guard, 0, 4));
        }
        for (long number : new long[] {-1, Long.MIN_VALUE, Integer.MIN_VALUE, Long.MIN_VALUE + 1}) {
            Check.badArgument("seal(0, " + number + ", 4)", maker, b -> b.seal(0, number, 4));
        }
    }

    private static void sealHeads() {
        Check.sentence("seal: or head not 0 .. the tape's bytes;");
        for (int size : new int[] {0, 1, 10, 64}) {
            byte[] packet = Check.sample(size, 2);
            Check.Maker maker = () -> boxWithGuards(packet);
            for (int head : new int[] {0, size}) {
                String call = "seal(0, 9, " + head + ") of " + size;
                SealBox box = maker.make();
                Check.due(call, size + 16, () -> box.seal(0, 9, head));
                Check.out(call, box, sealed(9, packet, head));
            }
            for (int head : new int[] {-1, size + 1, Integer.MIN_VALUE, Integer.MAX_VALUE}) {
                Check.badArgument("seal(0, 9, " + head + ") of " + size, maker, b -> b.seal(0, 9, head));
            }
        }
        SealBox full = boxWithGuards(Check.sample(2048, 2));
        Check.due("seal(0, 9, 2048) of 2048", 2064, () -> full.seal(0, 9, 2048));
        Check.badArgument("seal(0, 9, 2049) of 2048", () -> boxWithGuards(Check.sample(2048, 2)),
                b -> b.seal(0, 9, 2049));
    }

    private static void openArguments() {
        Check.sentence("open: Throws IllegalArgumentException when there is no such guard,"
                + " number or head is below 0,");
        byte[] packet = Check.sample(10, 2);
        for (int guard : new int[] {0, 3}) {
            for (long number : new long[] {0, 1, Long.MAX_VALUE}) {
                String call = "open(" + guard + ", " + number + ", 0)";
                SealBox box = boxWithGuards(sealed(number, packet, 0));
                Check.due(call, 10, () -> box.open(guard, number, 0));
                Check.out(call, box, packet);
            }
        }
        Check.Maker maker = () -> boxWithGuards(sealed(0, packet, 0));
        for (int guard : NO_GUARDS) {
            Check.badArgument("open(" + guard + ", 0, 0)", maker, b -> b.open(guard, 0, 0));
        }
        for (long number : new long[] {-1, Long.MIN_VALUE, Integer.MIN_VALUE, Long.MIN_VALUE + 1}) {
            Check.badArgument("open(0, " + number + ", 0)", maker, b -> b.open(0, number, 0));
        }
        for (int head : new int[] {-1, -16, -17, Integer.MIN_VALUE}) {
            Check.badArgument("open(0, 0, " + head + ")", maker, b -> b.open(0, 0, head));
        }
    }

    private static void openHeads() {
        Check.sentence("open: or the tape has not 16 more than head;");
        for (int head : new int[] {0, 1, 16, 50}) {
            byte[] packet = Check.sample(head, 2);
            SealBox box = boxWithGuards(sealed(9, packet, head));
            Check.due("open(0, 9, " + head + ") of 16 more", head, () -> box.open(0, 9, head));
            Check.out("open(0, 9, " + head + ") of 16 more", box, packet);
            byte[] shorter = Arrays.copyOf(sealed(9, packet, head), head + 15);
            Check.badArgument("open(0, 9, " + head + ") of 15 more", () -> boxWithGuards(shorter),
                    b -> b.open(0, 9, head));
            Check.badArgument("open(0, 9, " + head + ") of none more", () -> boxWithGuards(packet),
                    b -> b.open(0, 9, head));
        }
        Check.badArgument("open(0, 9, 0) of none", () -> boxWithGuards(NONE), b -> b.open(0, 9, 0));
        SealBox full = boxWithGuards(sealed(9, Check.sample(2032, 2), 2032));
        Check.due("open(0, 9, 2032) of 2048", 2032, () -> full.open(0, 9, 2032));
        for (int head : new int[] {2033, 2048, 2049, Integer.MAX_VALUE, Integer.MAX_VALUE - 15}) {
            Check.badArgument("open(0, 9, " + head + ") of 2048", () -> boxWithGuards(Check.sample(2048, 2)),
                    b -> b.open(0, 9, head));
        }
    }

    private static byte[] shielded(byte[] packet, int place, boolean does) {
        byte[] hide = Reference.label(KEY, 2, NONE, 32);
        return does ? Reference.shield(hide, packet, place) : Reference.unshield(hide, packet, place);
    }

    private static void dueShield(int guard, byte[] packet, int place, boolean does) {
        String call = "shield(" + guard + ", " + place + ", " + does + ") of " + packet.length;
        SealBox box = Check.after(call, () -> boxWithGuards(packet), b -> b.shield(guard, place, does));
        Check.out(call, box, shielded(packet, place, does));
    }

    private static void shieldArguments() {
        Check.sentence("shield: Throws IllegalArgumentException when there is no such guard, place is below 1,");
        byte[] packet = Check.sample(40, 2);
        for (boolean does : new boolean[] {false, true}) {
            for (int guard : new int[] {0, 3}) {
                dueShield(guard, packet, 1, does);
            }
            for (int guard : NO_GUARDS) {
                Check.badArgument("shield(" + guard + ", 1, " + does + ")", () -> boxWithGuards(packet),
                        b -> b.shield(guard, 1, does));
            }
            for (int place : new int[] {0, -1, -20, Integer.MIN_VALUE}) {
                Check.badArgument("shield(0, " + place + ", " + does + ")", () -> boxWithGuards(packet),
                        b -> b.shield(0, place, does));
            }
        }
    }

    private static void shieldPlaces() {
        Check.sentence("shield: or the tape has not 20 bytes from there on;");
        for (boolean does : new boolean[] {false, true}) {
            for (int place : new int[] {1, 2, 20, 77}) {
                dueShield(0, Check.sample(place + 20, 2), place, does);
                for (int size : new int[] {place + 19, place, place - 1}) {
                    Check.badArgument("shield(0, " + place + ", " + does + ") of " + size,
                            () -> boxWithGuards(Check.sample(size, 2)), b -> b.shield(0, place, does));
                }
            }
            fullShield(does);
        }
    }

    private static void fullShield(boolean does) {
        byte[] packet = Check.sample(2048, 2);
        byte[] due = shielded(packet, 2028, does);
        String call = "shield(0, 2028, " + does + ") of 2048";
        SealBox box = Check.after(call, () -> boxWithGuards(packet), b -> b.shield(0, 2028, does));
        Check.due("look(1) behind " + call, 2048, () -> box.look(1));
        for (int k : new int[] {0, 1, 2027, 2028, 2029, 2030, 2031, 2032, 2047}) {
            Check.due("out(" + k + ") of " + call, due[k] & 255, () -> box.out(k));
        }
        for (int place : new int[] {2029, 2048, 2049, Integer.MAX_VALUE, Integer.MAX_VALUE - 19}) {
            Check.badArgument("shield(0, " + place + ", " + does + ") of 2048", () -> boxWithGuards(packet),
                    b -> b.shield(0, place, does));
        }
    }

    private static void notArmed() {
        Check.sentence("seal, open, shield: IllegalStateException when it is not armed.");
        Check.Maker maker = () -> boxWithGuards(Check.sample(40, 2));
        for (int guard : new int[] {1, 2}) {
            Check.badState("seal(" + guard + ", 0, 0)", maker, b -> b.seal(guard, 0, 0));
            Check.badState("seal(" + guard + ", 0, 40)", maker, b -> b.seal(guard, 0, 40));
            Check.badState("open(" + guard + ", 0, 0)", maker, b -> b.open(guard, 0, 0));
            Check.badState("open(" + guard + ", 0, 24)", maker, b -> b.open(guard, 0, 24));
            for (boolean does : new boolean[] {false, true}) {
                Check.badState("shield(" + guard + ", 1, " + does + ")", maker, b -> b.shield(guard, 1, does));
                Check.badState("shield(" + guard + ", 20, " + does + ")", maker, b -> b.shield(guard, 20, does));
            }
        }
    }

    private static void out() {
        Check.sentence("out: Throws NoSuchElementException when there is none.");
        for (int size : new int[] {1, 2, 1024}) {
            byte[] due = Reference.stretch(KEY, NONE, size);
            SealBox box = boxWithOut(size);
            for (int k : new int[] {0, size - 1}) {
                Check.due("out(" + k + ") of " + size, due[k] & 255, () -> box.out(k));
            }
            for (int k : new int[] {-1, size, size + 1, Integer.MIN_VALUE, Integer.MAX_VALUE}) {
                Check.noElement("out(" + k + ") of " + size, () -> boxWithOut(size), b -> b.out(k));
            }
        }
        Check.noElement("out(0) of none", SealBox::new, b -> b.out(0));
    }

    private static void outs() {
        Check.sentence("outs: The OUT's bytes from k on, eight at most, lowest first, as a number."
                + " Throws NoSuchElementException when there is no byte k.");
        SealBox box = new SealBox();
        // the digest of nothing, whose last bytes are a4 95 99 1b 78 52 b8 55
        box.digest();
        Check.due("outs(24), all eight", 0x55b852781b9995a4L, () -> box.outs(24));
        Check.due("outs(23), eight of nine", 0xb852781b9995a44cL, () -> box.outs(23));
        Check.due("outs(25), seven", 0x55b852781b9995L, () -> box.outs(25));
        Check.due("outs(30), two", 0x55b8L, () -> box.outs(30));
        Check.due("outs(31), one", 0x55, () -> box.outs(31));
        Check.due("outs(0)", 0x141cfc9842c4b0e3L, () -> box.outs(0));
        for (int k : new int[] {-1, -8, 40, 41, Integer.MIN_VALUE, Integer.MAX_VALUE}) {
            Check.noElement("outs(" + k + ") of 40", () -> boxWith(KEY, 3), b -> b.outs(k));
        }
        Check.noElement("outs(0) of none", SealBox::new, b -> b.outs(0));
    }

    private static void look() {
        Check.sentence("look: 10 .. 13 the guards' phases (-1: not armed)."
                + " Throws NoSuchElementException for another what.");
        SealBox box = boxWithGuards(Check.sample(6, 2));
        box.turn(3);
        Check.due("look(0)", 6, () -> box.look(0));
        Check.due("look(1)", 40, () -> box.look(1));
        Check.due("look(2)", 32, () -> box.look(2));
        Check.due("look(9)", 32, () -> box.look(9));
        Check.due("look(10)", 0, () -> box.look(10));
        Check.due("look(11)", -1, () -> box.look(11));
        Check.due("look(12)", -1, () -> box.look(12));
        Check.due("look(13)", 1, () -> box.look(13));
        for (int what : new int[] {-1, 14, Integer.MIN_VALUE, Integer.MAX_VALUE}) {
            Check.noElement("look(" + what + ")", () -> boxWithGuards(Check.sample(6, 2)), b -> b.look(what));
        }
    }
}
