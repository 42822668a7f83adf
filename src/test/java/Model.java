import java.util.Arrays;
import java.util.NoSuchElementException;

/** A second box with the face of SealBox, made of Reference, for runs of many calls. */
final class Model {
    private static final class Guard {
        byte[] secret;
        byte[] key;
        byte[] iv;
        byte[] hide;
        int phase = -1;

        void renew() {
            key = Reference.label(secret, 0, new byte[0], 32);
            iv = Reference.label(secret, 1, new byte[0], 12);
        }
    }

    byte[] tape = new byte[0];
    byte[] out = new byte[0];
    final byte[][] slots = new byte[8][0];
    final Guard[] guards = {new Guard(), new Guard(), new Guard(), new Guard()};

    private static void argument(boolean fine) {
        if (!fine) {
            throw new IllegalArgumentException();
        }
    }

    private static void state(boolean fine) {
        if (!fine) {
            throw new IllegalStateException();
        }
    }

    private static void element(boolean fine) {
        if (!fine) {
            throw new NoSuchElementException();
        }
    }

    private static boolean within(int x, int least, int most) {
        return least <= x && x <= most;
    }

    private byte[] read() {
        byte[] had = tape;
        tape = new byte[0];
        return had;
    }

    int feed(int n, long v) {
        argument(within(n, 1, 8));
        state(tape.length + n <= 2048);
        byte[] more = new byte[n];
        for (int i = 0; i < n; i++) {
            more[i] = (byte) (v >> 8 * i);
        }
        tape = Reference.join(tape, more);
        return tape.length;
    }

    int wipe() {
        return read().length;
    }

    int keep(int slot, boolean fromOut) {
        argument(within(slot, 0, 7));
        state((fromOut ? out : tape).length <= 128);
        slots[slot] = fromOut ? out : read();
        return slots[slot].length;
    }

    void digest() {
        out = Reference.digest(read());
    }

    void mac(int slot) {
        argument(within(slot, 0, 7));
        out = Reference.mac(slots[slot], read());
    }

    void stretch(int slot, int n) {
        argument(within(slot, 0, 7) && within(n, 1, 1024));
        out = Reference.stretch(slots[slot], read(), n);
    }

    void label(int slot, int w, int n) {
        argument(within(slot, 0, 7) && within(w, 0, 10) && within(n, 1, 1024));
        state(tape.length <= 255);
        out = Reference.label(slots[slot], w, read(), n);
    }

    void block(int slot, int counter) {
        argument(within(slot, 0, 7));
        state(slots[slot].length == 32 && tape.length == 12);
        out = Reference.keyBlock(slots[slot], read(), counter);
    }

    void tally(int slot) {
        argument(within(slot, 0, 7));
        state(slots[slot].length == 32);
        out = Reference.tally(slots[slot], read());
    }

    void arm(int guard, int slot) {
        argument(within(guard, 0, 3) && within(slot, 0, 7));
        state(slots[slot].length == 32);
        Guard g = guards[guard];
        g.secret = slots[slot];
        g.hide = Reference.label(g.secret, 2, new byte[0], 32);
        g.phase = 0;
        g.renew();
    }

    int turn(int guard) {
        argument(within(guard, 0, 3));
        Guard g = guards[guard];
        state(g.phase >= 0);
        g.secret = Reference.label(g.secret, 3, new byte[0], 32);
        g.phase = g.phase == 0 ? 1 : 0;
        g.renew();
        return g.phase;
    }

    int seal(int guard, long number, int head) {
        argument(within(guard, 0, 3) && number >= 0 && within(head, 0, tape.length));
        Guard g = guards[guard];
        state(g.phase >= 0);
        out = Reference.seal(g.key, g.iv, number, read(), head);
        return out.length;
    }

    int open(int guard, long number, int head) {
        argument(within(guard, 0, 3) && number >= 0 && within(head, 0, tape.length - 16));
        Guard g = guards[guard];
        state(g.phase >= 0);
        byte[] opened = Reference.open(g.key, g.iv, number, read(), head);
        out = opened == null ? new byte[0] : opened;
        return opened == null ? -1 : out.length;
    }

    int shield(int guard, int place, boolean does) {
        argument(within(guard, 0, 3) && within(place, 1, tape.length - 20));
        Guard g = guards[guard];
        state(g.phase >= 0);
        byte[] packet = read();
        out = does ? Reference.shield(g.hide, packet, place) : Reference.unshield(g.hide, packet, place);
        return Reference.numberSize((does ? packet : out)[0] & 255);
    }

    int out(int k) {
        element(within(k, 0, out.length - 1));
        return out[k] & 255;
    }

    long outs(int k) {
        element(within(k, 0, out.length - 1));
        byte[] eight = Arrays.copyOf(Arrays.copyOfRange(out, k, out.length), 8);
        long number = 0;
        for (int i = 7; i >= 0; i--) {
            number = number * 256 + (eight[i] & 255);
        }
        return number;
    }

    int look(int what) {
        element(within(what, 0, 13));
        if (what < 2) {
            return (what == 0 ? tape : out).length;
        }
        return what < 10 ? slots[what - 2].length : guards[what - 10].phase;
    }
}
