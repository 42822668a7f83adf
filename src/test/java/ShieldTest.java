/** Promise 15: shield. */
public final class ShieldTest {
    private static final byte[] SECRET = Check.sample(32, 1);
    private static final byte[] HIDE = Reference.label(SECRET, 2, new byte[0], 32);

    public static void main(String[] args) {
        everyFirstByte();
        places();
        thereAndBack();
        onlyTheNumberChanges();
        hideStaysWhenTurned();
        fullTape();
        refusals();
        Check.end();
    }

    private static byte[] packet(int size, int first) {
        byte[] packet = Check.sample(size, first + 5);
        packet[0] = (byte) first;
        return packet;
    }

    private static void dueShield(byte[] packet, int place) {
        SealBox box = Check.armedBox(0, SECRET);
        int first = packet[0] & 255;
        Check.feed(box, packet);
        String call = "shield(0, " + place + ", true) of " + first + "..";
        Check.due(call, 1 + (first & 3), () -> box.shield(0, place, true));
        Check.out(call, box, Reference.shield(HIDE, packet, place));
        Check.due("the tape is read", 0, () -> box.look(0));
    }

    private static void dueUnshield(byte[] packet, int place) {
        SealBox box = Check.armedBox(0, SECRET);
        Check.feed(box, packet);
        String call = "shield(0, " + place + ", false) of " + (packet[0] & 255) + "..";
        int bare = Reference.bareFirst(HIDE, packet, place);
        Check.due(call, 1 + (bare & 3), () -> box.shield(0, place, false));
        Check.out(call, box, Reference.unshield(HIDE, packet, place));
        Check.due("the tape is read", 0, () -> box.look(0));
    }

    private static void everyFirstByte() {
        for (int first = 0; first < 256; first++) {
            dueShield(packet(40, first), 9);
            dueUnshield(packet(40, first), 9);
        }
    }

    private static void places() {
        for (int place = 1; place <= 30; place++) {
            dueShield(packet(50, 3), place);
            dueUnshield(packet(50, 131), place);
        }
        dueShield(packet(21, 3), 1);
        dueUnshield(packet(21, 3), 1);
    }

    private static void thereAndBack() {
        for (int first = 0; first < 256; first += 17) {
            SealBox box = Check.armedBox(0, SECRET);
            byte[] packet = packet(33, first);
            int size = 1 + (first & 3);
            Check.feed(box, packet);
            Check.due("shield", size, () -> box.shield(0, 6, true));
            Check.feed(box, Check.readOut(box));
            Check.due("unshield", size, () -> box.shield(0, 6, false));
            Check.out("unshield", box, packet);
        }
    }

    private static void onlyTheNumberChanges() {
        for (int first = 0; first < 4; first++) {
            SealBox box = Check.armedBox(0, SECRET);
            byte[] packet = packet(48, first);
            Check.feed(box, packet);
            box.shield(0, 10, true);
            byte[] out = Check.readOut(box);
            Check.same("the size", 48, out.length);
            for (int i = 1; i < 48; i++) {
                if (i < 10 || i > 10 + first) {
                    Check.same("byte " + i + " of a number of " + (first + 1), packet[i], out[i]);
                }
            }
        }
    }

    private static void hideStaysWhenTurned() {
        SealBox box = Check.armedBox(0, SECRET);
        box.turn(0);
        Check.feed(box, packet(40, 2));
        box.shield(0, 5, true);
        Check.out("shield by a turned guard", box, Reference.shield(HIDE, packet(40, 2), 5));
    }

    private static void fullTape() {
        SealBox box = Check.armedBox(0, SECRET);
        byte[] packet = packet(2048, 3);
        byte[] due = Reference.shield(HIDE, packet, 2028);
        Check.feed(box, packet);
        Check.due("shield(0, 2028, true) of 2048", 4, () -> box.shield(0, 2028, true));
        Check.due("look(1)", 2048, () -> box.look(1));
        Check.due("out(0)", due[0] & 255, () -> box.out(0));
        for (int k = 2020; k < 2048; k++) {
            int at = k;
            Check.due("out(" + k + ")", due[k] & 255, () -> box.out(at));
        }
    }

    private static SealBox boxWith(int size) {
        SealBox box = Check.armedBox(0, SECRET);
        Check.feed(box, Check.sample(size, 4));
        return box;
    }

    /** Guard 0 is armed and guard 1 is not: what is wrong with a call's arguments comes first for both. */
    private static void refusals() {
        Check.Maker maker = () -> boxWith(25);
        for (boolean does : new boolean[] {false, true}) {
            for (int guard : Check.NO_GUARDS) {
                Check.badArgument("shield(" + guard + ", 5, " + does + ")", maker, b -> b.shield(guard, 5, does));
            }
            for (int guard = 0; guard <= 1; guard++) {
                int g = guard;
                for (int place : new int[] {0, -1, 6, 25, Integer.MIN_VALUE, Integer.MAX_VALUE,
                    Integer.MAX_VALUE - 19}) {
                    String call = "shield(" + g + ", " + place + ", " + does + ") of 25";
                    Check.badArgument(call, maker, b -> b.shield(g, place, does));
                }
                Check.badArgument("shield of 20", () -> boxWith(20), b -> b.shield(g, 1, does));
                Check.badArgument("shield of none", () -> boxWith(0), b -> b.shield(g, 1, does));
            }
            Check.badState("shield(1, 5, " + does + "), not armed", maker, b -> b.shield(1, 5, does));
        }
    }
}
