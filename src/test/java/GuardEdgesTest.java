import java.util.Arrays;

/** The sentences of 'Terms' on guards, SEALING, OPENING, SHIELDING and UNSHIELDING that name an edge. */
public final class GuardEdgesTest {
    private static final byte[] NONE = new byte[0];
    private static final byte[] SECRET = Check.sample(32, 3);
    private static final byte[] KEY = Reference.label(SECRET, 0, NONE, 32);
    private static final byte[] IV = Reference.label(SECRET, 1, NONE, 12);
    private static final byte[] HIDE = Reference.label(SECRET, 2, NONE, 32);

    public static void main(String[] args) {
        Check.sentence("A GUARD, 0 .. 3, is at first not ARMED.", GuardEdgesTest::notArmedAtFirst);
        Check.sentence("To arm it with a SECRET of 32 bytes", GuardEdgesTest::onlyItselfIsArmed);
        Check.sentence("its KEY is LABEL 0 of that to 32 bytes (without context, as all here)",
                GuardEdgesTest::withoutContext);
        Check.sentence("the phase is the other one of 0 and 1.", GuardEdgesTest::otherPhase);
        Check.sentence("key and IV are made anew of that; HIDE stays;", GuardEdgesTest::hideStays);
        Check.sentence("the nonce is the IV, its last 8 bytes ^ those of the number, highest first.",
                GuardEdgesTest::nonceOfTheNumber);
        Check.sentence("SEALING bytes with a HEAD (its first ones)", GuardEdgesTest::heads);
        Check.sentence("the head, 0s up to a multiple of 16, what is behind the head (as it is now), 0s likewise",
                GuardEdgesTest::talliedZeros);
        Check.sentence("OPENING: the other way round, if the last 16 bytes are that tally.",
                GuardEdgesTest::tallyAtTheEnd);
        Check.sentence("-1 when its end is not the tally (the OUT is empty then).", GuardEdgesTest::notOpenedIsEmpty);
        Check.sentence("The number has 1 more bytes than the lowest two bits of the first byte say;",
                GuardEdgesTest::numberSizes);
        Check.sentence("the lowest four bits of mask 0 if its highest bit is 1, the lowest five otherwise.",
                GuardEdgesTest::firstByteBits);
        Check.sentence("UNSHIELDING: .. the first byte is done first, and says then how many bytes the number has.",
                GuardEdgesTest::unshieldedFirstByte);
        Check.sentence("the SAMPLE is the 16 bytes from place + 4 on;", GuardEdgesTest::sampleAtTheEnd);
        Check.end();
    }

    private static SealBox boxWithTape(int size) {
        SealBox box = new SealBox();
        Check.keep(box, 0, SECRET);
        Check.feed(box, Check.sample(size, 2));
        return box;
    }

    private static void dueRefusing(String what, Check.Maker maker, int guard) {
        Check.due("the phase of " + what, -1, () -> maker.make().look(10 + guard));
        Check.badState("turn of " + what, maker, b -> b.turn(guard));
        Check.badState("seal of " + what, maker, b -> b.seal(guard, 0, 0));
        Check.badState("open of " + what, maker, b -> b.open(guard, 0, 0));
        Check.badState("shield of " + what, maker, b -> b.shield(guard, 1, true));
        Check.badState("unshield of " + what, maker, b -> b.shield(guard, 1, false));
    }

    private static void notArmedAtFirst() {
        for (int guard = 0; guard < 4; guard++) {
            dueRefusing("guard " + guard + " at first", () -> boxWithTape(30), guard);
        }
    }

    private static SealBox boxWithGuard(int guard) {
        SealBox box = boxWithTape(0);
        box.arm(guard, 0);
        Check.feed(box, Check.sample(30, 2));
        return box;
    }

    private static void onlyItselfIsArmed() {
        for (int armed = 0; armed < 4; armed++) {
            int a = armed;
            SealBox box = boxWithGuard(a);
            Check.due("the phase of guard " + a, 0, () -> box.look(10 + a));
            Check.due("seal by guard " + a, 46, () -> box.seal(a, 5, 5));
            Check.out("seal by guard " + a, box, Reference.seal(KEY, IV, 5, Check.sample(30, 2), 5));
            for (int other = 0; other < 4; other++) {
                if (other != a) {
                    dueRefusing("guard " + other + " beside " + a, () -> boxWithGuard(a), other);
                }
            }
        }
    }

    /** What is on the tape is no context: guards armed and turned with a tape are those without one. */
    private static void withoutContext() {
        SealBox box = boxWithTape(200);
        box.arm(2, 0);
        Check.due("the tape stays", 200, () -> box.look(0));
        box.turn(2);
        Check.due("the tape stays", 200, () -> box.look(0));
        box.wipe();
        dueTurned(box, 2, 1);
        byte[] packet = Check.sample(30, 4);
        Check.feed(box, packet);
        box.shield(2, 3, true);
        Check.out("a shield", box, Reference.shield(HIDE, packet, 3));
    }

    /** A guard that was turned so many times seals as it is due. */
    private static void dueTurned(SealBox box, int guard, int turns) {
        byte[] secret = SECRET;
        for (int i = 0; i < turns; i++) {
            secret = Reference.label(secret, 3, NONE, 32);
        }
        byte[] key = Reference.label(secret, 0, NONE, 32);
        byte[] iv = Reference.label(secret, 1, NONE, 12);
        Check.feed(box, Check.sample(8, 5));
        box.seal(guard, 6, 2);
        Check.out("a seal behind " + turns + " turns", box, Reference.seal(key, iv, 6, Check.sample(8, 5), 2));
    }

    /** Some 500 turns: an object is used for at most 512 calls. */
    private static void otherPhase() {
        SealBox box = boxWithTape(0);
        box.arm(1, 0);
        Check.due("the phase at first", 0, () -> box.look(11));
        for (int i = 1; i <= 480; i++) {
            Check.due("turn " + i, i % 2, () -> box.turn(1));
        }
        Check.due("the phase behind 480 turns", 0, () -> box.look(11));
        dueTurned(box, 1, 480);
        Check.due("turn 481", 1, () -> box.turn(1));
        Check.due("the phase behind 481 turns", 1, () -> box.look(11));
        box.arm(1, 0);
        Check.due("the phase when armed again", 0, () -> box.look(11));
        dueTurned(box, 1, 0);
    }

    private static void hideStays() {
        byte[] packet = Check.sample(30, 4);
        SealBox box = boxWithTape(0);
        box.arm(1, 0);
        for (int turns = 0; turns <= 3; turns++) {
            Check.feed(box, packet);
            box.shield(1, 3, true);
            Check.out("a shield behind " + turns + " turns", box, Reference.shield(HIDE, packet, 3));
            dueTurned(box, 1, turns);
            box.turn(1);
        }
    }

    private static SealBox armedBoxWith(byte[] tape) {
        SealBox box = boxWithTape(0);
        box.arm(1, 0);
        Check.feed(box, tape);
        return box;
    }

    private static void dueSeal(long number, byte[] packet, int head) {
        String call = "seal(1, " + number + ", " + head + ") of " + packet.length;
        SealBox box = armedBoxWith(packet);
        Check.due(call, packet.length + 16, () -> box.seal(1, number, head));
        byte[] sealed = Reference.seal(KEY, IV, number, packet, head);
        Check.out(call, box, sealed);
        SealBox back = armedBoxWith(sealed);
        Check.due("the open of " + call, packet.length, () -> back.open(1, number, head));
        Check.out("the open of " + call, back, packet);
    }

    private static void nonceOfTheNumber() {
        for (int bit = 0; bit < 63; bit++) {
            dueSeal(1L << bit, Check.sample(5, bit), 1);
        }
        dueSeal(0, Check.sample(5, 1), 1);
        dueSeal(Long.MAX_VALUE, Check.sample(5, 1), 1);
    }

    /** Key blocks have 64 bytes, pieces of a tally 16. */
    private static void heads() {
        for (int size : new int[] {0, 1, 16, 64, 65, 130}) {
            dueSeal(4, Check.sample(size, 6), 0);
            dueSeal(4, Check.sample(size, 6), size);
            byte[] allHead = Check.sample(size, 6);
            SealBox box = armedBoxWith(allHead);
            box.seal(1, 4, size);
            Check.same("a head of " + size, Check.hex(allHead),
                    Check.hex(Arrays.copyOf(Check.readOut(box), size)));
        }
    }

    private static void talliedZeros() {
        for (int head : new int[] {0, 1, 15, 16, 17, 32}) {
            for (int behind : new int[] {0, 1, 15, 16, 17, 63, 64, 65, 127, 128, 129}) {
                dueSeal(8, Check.sample(head + behind, head), head);
            }
        }
    }

    private static void tallyAtTheEnd() {
        byte[] packet = Check.sample(20, 7);
        byte[] sealed = Reference.seal(KEY, IV, 3, packet, 6);
        for (int k = 0; k < sealed.length; k++) {
            for (int change : new int[] {1, 128, 255}) {
                byte[] changed = sealed.clone();
                changed[k] ^= (byte) change;
                dueNotOpened("byte " + k + " ^ " + change, changed, 3, 6);
            }
        }
        dueNotOpened("a byte less at the end", Arrays.copyOf(sealed, 35), 3, 6);
        dueNotOpened("a byte more at the end", Arrays.copyOf(sealed, 37), 3, 6);
        dueNotOpened("a byte less in front", Arrays.copyOfRange(sealed, 1, 36), 3, 6);
        dueNotOpened("another number", sealed, 2, 6);
        dueNotOpened("a head of one byte less", sealed, 3, 5);
        dueNotOpened("a head of one byte more", sealed, 3, 7);
    }

    private static void notOpenedIsEmpty() {
        dueNotOpened("16 bytes 0", new byte[16], 0, 0);
        dueNotOpened("16 bytes 255", Check.repeat(255, 16), 0, 0);
        dueNotOpened("16 bytes behind a head of 1", new byte[17], 0, 1);
        dueNotOpened("2048 bytes", Check.sample(2048, 1), 0, 0);
        SealBox nothing = armedBoxWith(Reference.seal(KEY, IV, 3, NONE, 0));
        Check.due("open of nothing but a tally", 0, () -> nothing.open(1, 3, 0));
        Check.due("its OUT", 0, () -> nothing.look(1));
    }

    private static void dueNotOpened(String what, byte[] sealed, long number, int head) {
        SealBox box = boxWithTape(0);
        box.arm(1, 0);
        box.digest();
        Check.feed(box, sealed);
        Check.due("open of " + what, -1, () -> box.open(1, number, head));
        Check.due("look(1) behind it", 0, () -> box.look(1));
        Check.due("look(0) behind it", 0, () -> box.look(0));
        Check.same("out(0) behind it", "throws.NoSuchElementException", Check.answerOf(() -> box.out(0)));
        Check.due("the phase behind it", 0, () -> box.look(11));
    }

    private static byte[] packet(int size, int first, int seed) {
        byte[] packet = Check.sample(size, seed);
        packet[0] = (byte) first;
        return packet;
    }

    private static void dueShield(byte[] packet, int place) {
        int size = 1 + (packet[0] & 3);
        String call = "shield(1, " + place + ", true) of " + Check.hex(packet);
        SealBox box = armedBoxWith(packet);
        Check.due(call, size, () -> box.shield(1, place, true));
        byte[] shielded = Reference.shield(HIDE, packet, place);
        Check.out(call, box, shielded);
        SealBox back = armedBoxWith(shielded);
        Check.due("the way back of " + call, size, () -> back.shield(1, place, false));
        Check.out("the way back of " + call, back, packet);
    }

    private static void numberSizes() {
        for (int first = 0; first < 8; first++) {
            for (int seed = 0; seed < 8; seed++) {
                byte[] packet = packet(30, first, seed);
                dueShield(packet, 5);
                byte[] mask = Reference.mask(HIDE, packet, 5);
                SealBox box = armedBoxWith(packet);
                box.shield(1, 5, true);
                byte[] out = Check.readOut(box);
                for (int k = 1; k < 30; k++) {
                    boolean ofNumber = k >= 5 && k <= 5 + first % 4;
                    Check.same("byte " + k, packet[k] ^ (ofNumber ? mask[1 + k - 5] : 0), (int) out[k]);
                }
            }
        }
    }

    private static void firstByteBits() {
        for (int first : new int[] {0, 63, 64, 127, 128, 191, 192, 255}) {
            for (int seed = 0; seed < 32; seed++) {
                byte[] packet = packet(30, first, seed);
                int mask = Reference.mask(HIDE, packet, 2)[0] & 255;
                SealBox box = armedBoxWith(packet);
                box.shield(1, 2, true);
                Check.due("the first byte of " + first, first ^ mask & (first >= 128 ? 15 : 31), () -> box.out(0));
                dueShield(packet, 2);
            }
        }
    }

    /** Among these are packets whose first byte says another size before it is done than behind. */
    private static void unshieldedFirstByte() {
        int changed = 0;
        for (int first = 0; first < 256; first += 5) {
            byte[] packet = packet(30, first, first);
            int bare = Reference.bareFirst(HIDE, packet, 4);
            changed += (bare & 3) != (first & 3) ? 1 : 0;
            SealBox box = armedBoxWith(packet);
            Check.due("unshield of " + first, 1 + (bare & 3), () -> box.shield(1, 4, false));
            Check.out("unshield of " + first, box, Reference.unshield(HIDE, packet, 4));
        }
        Check.same("some first bytes change their size", true, changed > 10);
    }

    private static void sampleAtTheEnd() {
        for (int place : new int[] {1, 2, 4, 5, 30}) {
            dueShield(packet(place + 20, 3, 9), place);
            dueShield(packet(place + 21, 3, 9), place);
            // the sample's last byte changes the mask, one behind the sample does not
            byte[] packet = packet(place + 20, 3, 9);
            byte[] other = packet.clone();
            other[place + 19] ^= 1;
            Check.same("the last byte counts", false,
                    Arrays.equals(numberOf(shieldOf(packet, place), place), numberOf(shieldOf(other, place), place)));
            byte[] longer = Arrays.copyOf(packet, place + 21);
            Check.same("a byte behind the sample", Check.hex(shieldOf(packet, place)) + "00",
                    Check.hex(shieldOf(longer, place)));
        }
    }

    private static byte[] shieldOf(byte[] packet, int place) {
        SealBox box = armedBoxWith(packet);
        box.shield(1, place, true);
        return Check.readOut(box);
    }

    private static byte[] numberOf(byte[] packet, int place) {
        return Arrays.copyOfRange(packet, place, place + 4);
    }
}
