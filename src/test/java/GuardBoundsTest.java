import java.util.Arrays;

/** Promises 11 to 15: each 'Throws ..' clause, on both sides of each bound that it names. */
public final class GuardBoundsTest {
    private static final boolean[] BOTH_WAYS = {false, true};
    private static final byte[] NONE = new byte[0];
    private static final byte[] KEY = Check.sample(32, 1);
    private static final byte[] TEN = Check.sample(10, 2);
    private static final byte[] FORTY = Check.sample(40, 2);
    private static final Check.Maker BOX_WITH_TEN = () -> boxWithGuards(TEN);
    private static final Check.Maker BOX_WITH_FORTY = () -> boxWithGuards(FORTY);
    private static final Check.Maker BOX_WITH_SEALED = () -> boxWithGuards(sealed(0, TEN, 0));

    public static void main(String[] args) {
        Check.sentence("arm: IllegalArgumentException when there is no such guard", GuardBoundsTest::armGuards);
        Check.sentence("arm: no such .. slot;", GuardBoundsTest::armSlots);
        Check.sentence("arm: IllegalStateException when the slot has not 32 bytes.", GuardBoundsTest::armSecrets);
        Check.sentence("turn: IllegalArgumentException when there is none;", GuardBoundsTest::turnGuards);
        Check.sentence("turn: IllegalStateException when it is not armed.", GuardBoundsTest::turnNotArmed);
        Check.sentence("seal: IllegalArgumentException when there is no such guard,", GuardBoundsTest::sealGuards);
        Check.sentence("seal: number is below 0,", GuardBoundsTest::sealNumbers);
        Check.sentence("seal: or head not 0 .. the tape's bytes;", GuardBoundsTest::sealHeads);
        Check.sentence("seal: IllegalStateException when it is not armed.", GuardBoundsTest::sealNotArmed);
        Check.sentence("open: IllegalArgumentException when there is no such guard,", GuardBoundsTest::openGuards);
        Check.sentence("open: number or head is below 0,", GuardBoundsTest::openBelow0);
        Check.sentence("open: or the tape has not 16 more than head;", GuardBoundsTest::openHeads);
        Check.sentence("open: IllegalStateException when it is not armed.", GuardBoundsTest::openNotArmed);
        Check.sentence("shield: IllegalArgumentException when there is no such guard,",
                GuardBoundsTest::shieldGuards);
        Check.sentence("shield: place is below 1,", GuardBoundsTest::shieldLowPlaces);
        Check.sentence("shield: or the tape has not 20 bytes from there on;", GuardBoundsTest::shieldHighPlaces);
        Check.sentence("shield: IllegalStateException when it is not armed.", GuardBoundsTest::shieldNotArmed);
        Check.end();
    }

    /** Guards 0 and 3 are armed, 1 and 2 not. */
    private static SealBox boxWithGuards(byte[] tape) {
        SealBox box = Check.boxWithKeys(KEY, 0);
        box.arm(0, 0);
        box.arm(3, 7);
        Check.feed(box, tape);
        return box;
    }

    private static byte[] sealed(long number, byte[] packet, int head) {
        return Reference.seal(Reference.label(KEY, 0, NONE, 32), Reference.label(KEY, 1, NONE, 12),
                number, packet, head);
    }

    private static void dueArmed(int guard, int slot) {
        String call = "arm(" + guard + ", " + slot + ")";
        SealBox box = Check.after(call, () -> Check.boxWithKeys(KEY, 0), b -> b.arm(guard, slot));
        Check.due("the phase behind " + call, 0, () -> box.look(10 + guard));
        Check.feed(box, TEN);
        Check.due("a seal behind " + call, 26, () -> box.seal(guard, 7, 4));
        Check.out("a seal behind " + call, box, sealed(7, TEN, 4));
    }

    private static void armGuards() {
        dueArmed(0, 4);
        dueArmed(3, 4);
        for (int guard : Check.NO_GUARDS) {
            Check.badArgument("arm(" + guard + ", 4)", BOX_WITH_TEN, b -> b.arm(guard, 4));
        }
    }

    private static void armSlots() {
        dueArmed(2, 0);
        dueArmed(2, 7);
        for (int slot : Check.NO_SLOTS) {
            Check.badArgument("arm(2, " + slot + ")", BOX_WITH_TEN, b -> b.arm(2, slot));
        }
    }

    private static void armSecrets() {
        dueArmed(1, 1);
        for (int size : new int[] {0, 31, 33, 64, 128}) {
            Check.badState("arm with " + size, () -> Check.boxWithKeys(Check.sample(size, 1), 5), b -> b.arm(1, 1));
        }
    }

    private static void turnGuards() {
        for (int guard : new int[] {0, 3}) {
            Check.due("turn(" + guard + ")", 1, () -> BOX_WITH_TEN.make().turn(guard));
        }
        for (int guard : Check.NO_GUARDS) {
            Check.badArgument("turn(" + guard + ")", BOX_WITH_TEN, b -> b.turn(guard));
        }
    }

    private static void turnNotArmed() {
        for (int guard : new int[] {1, 2}) {
            Check.badState("turn(" + guard + ")", BOX_WITH_TEN, b -> b.turn(guard));
        }
    }

    private static void dueSeal(int guard, long number, byte[] packet, int head) {
        String call = "seal(" + guard + ", " + number + ", " + head + ") of " + packet.length;
        SealBox box = boxWithGuards(packet);
        Check.due(call, packet.length + 16, () -> box.seal(guard, number, head));
        Check.out(call, box, sealed(number, packet, head));
    }

    private static void sealGuards() {
        dueSeal(0, 7, TEN, 4);
        dueSeal(3, 7, TEN, 4);
        for (int guard : Check.NO_GUARDS) {
            Check.badArgument("seal(" + guard + ", 7, 4)", BOX_WITH_TEN, b -> b.seal(guard, 7, 4));
        }
    }

    private static void sealNumbers() {
        for (long number : new long[] {0, 1, 0x80000000L, Long.MAX_VALUE}) {
            dueSeal(0, number, TEN, 4);
        }
        for (long number : new long[] {-1, -2, Integer.MIN_VALUE, Long.MIN_VALUE}) {
            Check.badArgument("seal(0, " + number + ", 4)", BOX_WITH_TEN, b -> b.seal(0, number, 4));
        }
    }

    private static void sealHeads() {
        for (int size : new int[] {0, 1, 10, 64}) {
            byte[] packet = Check.sample(size, 2);
            dueSeal(0, 7, packet, 0);
            dueSeal(0, 7, packet, size);
            for (int head : new int[] {-1, size + 1, Integer.MIN_VALUE, Integer.MAX_VALUE}) {
                Check.badArgument("seal(0, 7, " + head + ") of " + size, () -> boxWithGuards(packet),
                        b -> b.seal(0, 7, head));
            }
        }
        byte[] full = Check.sample(2048, 2);
        Check.due("seal(0, 7, 2048) of 2048", 2064, () -> boxWithGuards(full).seal(0, 7, 2048));
        Check.badArgument("seal(0, 7, 2049) of 2048", () -> boxWithGuards(full), b -> b.seal(0, 7, 2049));
    }

    private static void sealNotArmed() {
        for (int guard : new int[] {1, 2}) {
            Check.badState("seal(" + guard + ", 0, 0)", BOX_WITH_TEN, b -> b.seal(guard, 0, 0));
            Check.badState("seal(" + guard + ", 7, 10)", BOX_WITH_TEN, b -> b.seal(guard, 7, 10));
        }
    }

    private static void dueOpen(int guard, long number, byte[] packet, int head) {
        String call = "open(" + guard + ", " + number + ", " + head + ") of " + packet.length;
        SealBox box = boxWithGuards(sealed(number, packet, head));
        Check.due(call, packet.length, () -> box.open(guard, number, head));
        Check.out(call, box, packet);
    }

    private static void openGuards() {
        dueOpen(0, 7, TEN, 4);
        dueOpen(3, 7, TEN, 4);
        for (int guard : Check.NO_GUARDS) {
            Check.badArgument("open(" + guard + ", 0, 0)", BOX_WITH_SEALED, b -> b.open(guard, 0, 0));
        }
    }

    private static void openBelow0() {
        for (long number : new long[] {0, 1, 0x80000000L, Long.MAX_VALUE}) {
            dueOpen(0, number, TEN, 0);
        }
        for (long number : new long[] {-1, -2, Integer.MIN_VALUE, Long.MIN_VALUE}) {
            Check.badArgument("open(0, " + number + ", 0)", BOX_WITH_SEALED, b -> b.open(0, number, 0));
        }
        for (int head : new int[] {-1, -16, -17, Integer.MIN_VALUE}) {
            Check.badArgument("open(0, 0, " + head + ")", BOX_WITH_SEALED, b -> b.open(0, 0, head));
        }
    }

    private static void openHeads() {
        for (int head : new int[] {0, 1, 16, 50}) {
            byte[] packet = Check.sample(head, 2);
            dueOpen(0, 7, packet, head);
            for (int more : new int[] {15, 1, 0}) {
                byte[] cut = Arrays.copyOf(sealed(7, packet, head), head + more);
                Check.badArgument("open(0, 7, " + head + ") of " + more + " more", () -> boxWithGuards(cut),
                        b -> b.open(0, 7, head));
            }
        }
        byte[] full = sealed(7, Check.sample(2032, 2), 2032);
        Check.due("open(0, 7, 2032) of 2048", 2032, () -> boxWithGuards(full).open(0, 7, 2032));
        for (int head : new int[] {2033, 2048, 2049, Integer.MAX_VALUE, Integer.MAX_VALUE - 15}) {
            Check.badArgument("open(0, 7, " + head + ") of 2048", () -> boxWithGuards(full),
                    b -> b.open(0, 7, head));
        }
    }

    private static void openNotArmed() {
        for (int guard : new int[] {1, 2}) {
            Check.badState("open(" + guard + ", 0, 0)", BOX_WITH_SEALED, b -> b.open(guard, 0, 0));
            Check.badState("open(" + guard + ", 7, 10)", BOX_WITH_SEALED, b -> b.open(guard, 7, 10));
        }
    }

    private static byte[] shielded(byte[] packet, int place, boolean does) {
        byte[] hide = Reference.label(KEY, 2, NONE, 32);
        return does ? Reference.shield(hide, packet, place) : Reference.unshield(hide, packet, place);
    }

    private static void dueShield(int guard, byte[] packet, int place, boolean does) {
        String call = "shield(" + guard + ", " + place + ", " + does + ") of " + packet.length;
        SealBox box = Check.after(call, () -> boxWithGuards(packet), b -> b.shield(guard, place, does));
        Check.out(call, box, shielded(packet, place, does));
    }

    private static void shieldGuards() {
        for (boolean does : BOTH_WAYS) {
            dueShield(0, FORTY, 5, does);
            dueShield(3, FORTY, 5, does);
            for (int guard : Check.NO_GUARDS) {
                Check.badArgument("shield(" + guard + ", 5, " + does + ")", BOX_WITH_FORTY,
                        b -> b.shield(guard, 5, does));
            }
        }
    }

    private static void shieldLowPlaces() {
        for (boolean does : BOTH_WAYS) {
            dueShield(0, FORTY, 1, does);
            for (int place : new int[] {0, -1, -20, Integer.MIN_VALUE}) {
                Check.badArgument("shield(0, " + place + ", " + does + ")", BOX_WITH_FORTY,
                        b -> b.shield(0, place, does));
            }
        }
    }

    private static void shieldHighPlaces() {
        for (boolean does : BOTH_WAYS) {
            for (int place : new int[] {1, 2, 20, 77}) {
                dueShield(0, Check.sample(place + 20, 2), place, does);
                for (int size : new int[] {place + 19, place, place - 1}) {
                    Check.badArgument("shield(0, " + place + ", " + does + ") of " + size,
                            () -> boxWithGuards(Check.sample(size, 2)), b -> b.shield(0, place, does));
                }
            }
            shieldFullTape(does);
        }
    }

    private static void shieldFullTape(boolean does) {
        byte[] packet = Check.sample(2048, 2);
        byte[] due = shielded(packet, 2028, does);
        String call = "shield(0, 2028, " + does + ") of 2048";
        SealBox box = Check.after(call, () -> boxWithGuards(packet), b -> b.shield(0, 2028, does));
        Check.due("look(1) behind " + call, 2048, () -> box.look(1));
        for (int k : new int[] {0, 1, 2027, 2028, 2029, 2030, 2031, 2032, 2047}) {
            Check.due("out(" + k + ") of " + call, due[k] & 255, () -> box.out(k));
        }
        for (int place : new int[] {2029, 2048, 2049, Integer.MAX_VALUE, Integer.MAX_VALUE - 19}) {
            Check.badArgument("shield(0, " + place + ", " + does + ") of 2048", () -> boxWithGuards(packet),
                    b -> b.shield(0, place, does));
        }
    }

    private static void shieldNotArmed() {
        for (boolean does : BOTH_WAYS) {
            for (int guard : new int[] {1, 2}) {
                Check.badState("shield(" + guard + ", 1, " + does + ")", BOX_WITH_FORTY,
                        b -> b.shield(guard, 1, does));
                Check.badState("shield(" + guard + ", 20, " + does + ")", BOX_WITH_FORTY,
                        b -> b.shield(guard, 20, does));
            }
        }
    }
}
