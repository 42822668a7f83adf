import java.util.Random;

/** All promises: runs of at most 512 calls, each answer compared with the model's. */
public final class RandomRunsTest {
    private static final int CALLS_MOST = 512;
    private static final int[] ODD_INTS = {Integer.MIN_VALUE, -2147483647, -1, 0, 1, 2147483646, Integer.MAX_VALUE};

    private final Random random;
    private final int run;
    private final SealBox box = new SealBox();
    private final Model model = new Model();
    private int calls = 0;

    private RandomRunsTest(int run) {
        this.run = run;
        this.random = new Random(run);
    }

    public static void main(String[] args) {
        for (int run = 0; run < 400; run++) {
            new RandomRunsTest(run).go();
        }
        Check.end();
    }

    private void go() {
        prepare();
        while (calls < CALLS_MOST) {
            act();
            compare("look", () -> box.look(0), () -> model.look(0));
            compare("look", () -> box.look(1), () -> model.look(1));
            int what = upTo(15) - 1;
            compare("look " + what, () -> box.look(what), () -> model.look(what));
            readOut();
        }
    }

    /** A box that is all new refuses most calls: so most runs begin with armed guards, some with a full tape. */
    private void prepare() {
        int armed = upTo(4);
        for (int i = 0; i < armed; i++) {
            int guard = i;
            makeSecret(i);
            compareVoid("arm " + guard, () -> box.arm(guard, guard), () -> model.arm(guard, guard));
        }
        if (upTo(15) == 0) {
            for (int i = 0; i < 258; i++) {
                int n = i < 255 ? 8 : 3;
                long v = random.nextLong();
                compare("feed " + n + " " + v, () -> box.feed(n, v), () -> model.feed(n, v));
            }
        }
    }

    private void compare(String call, Check.Call real, Check.Call due) {
        if (calls < CALLS_MOST) {
            calls++;
            Check.same("run " + run + ", call " + calls + ": " + call, Check.answerOf(due), Check.answerOf(real));
        }
    }

    private void compareVoid(String call, Check.Act real, Check.Act due) {
        compare(call, () -> {
            real.run();
            return 0;
        }, () -> {
            due.run();
            return 0;
        });
    }

    private int upTo(int most) {
        return random.nextInt(most + 1);
    }

    /** Mostly within the bounds, at times one beside them or far off. */
    private int near(int least, int most) {
        int kind = upTo(19);
        if (kind == 0) {
            return ODD_INTS[upTo(ODD_INTS.length - 1)];
        }
        if (kind <= 2) {
            return kind == 1 ? least - 1 : most + 1;
        }
        if (kind <= 6 || most < least) {
            return kind % 2 == 0 ? least : most;
        }
        return least + upTo(most - least);
    }

    private void act() {
        int kind = upTo(23);
        int slot = near(0, 7);
        int guard = near(0, upTo(3));
        switch (kind) {
            case 0, 1: feedSome(near(0, 9)); break;
            case 2: feedSome(upTo(upTo(30) == 0 ? 300 : 40)); break;
            case 3: compare("wipe", box::wipe, model::wipe); break;
            case 4: keepSome(slot, upTo(1) == 0); break;
            case 5: compareVoid("digest", box::digest, model::digest); break;
            case 6: compareVoid("mac " + slot, () -> box.mac(slot), () -> model.mac(slot)); break;
            case 7: stretchSome(slot, near(1, upTo(3) == 0 ? 1024 : 70)); break;
            case 8: labelSome(slot, near(0, 10), near(1, upTo(3) == 0 ? 1024 : 70)); break;
            case 9: blockSome(slot, random.nextInt()); break;
            case 10: compareVoid("tally " + slot, () -> box.tally(slot), () -> model.tally(slot)); break;
            case 11, 12: makeSecret(slot); break;
            case 13, 14: compareVoid("arm " + guard + " " + slot,
                    () -> box.arm(guard, slot), () -> model.arm(guard, slot)); break;
            case 15: compare("turn " + guard, () -> box.turn(guard), () -> model.turn(guard)); break;
            case 16, 17: sealSome(guard, number(), near(0, model.tape.length)); break;
            case 18: openSome(guard, number(), near(0, model.tape.length - 16)); break;
            case 19: sealAndOpen(guard); break;
            case 20: macBehindMac(slot, upTo(7)); break;
            default:
                feedSome(upTo(5));
                shieldSome(guard, near(1, model.tape.length - 20), upTo(1) == 0);
                break;
        }
    }

    private long number() {
        int kind = upTo(9);
        if (kind == 0) {
            return random.nextLong();
        }
        return kind == 1 ? Long.MAX_VALUE - upTo(1) : random.nextLong() >>> 1 + upTo(62);
    }

    private void feedSome(int many) {
        for (int i = 0; i < many && i < 300; i++) {
            int n = upTo(9) == 0 ? near(1, 8) : 1 + upTo(7);
            long v = random.nextLong();
            compare("feed " + n + " " + v, () -> box.feed(n, v), () -> model.feed(n, v));
        }
    }

    private void feedBytes(byte[] bytes) {
        for (byte b : bytes) {
            compare("feed 1 " + b, () -> box.feed(1, b), () -> model.feed(1, b));
        }
    }

    private void keepSome(int slot, boolean out) {
        compare("keep " + slot + " " + out, () -> box.keep(slot, out), () -> model.keep(slot, out));
    }

    private void makeSecret(int slot) {
        feedSome(upTo(3));
        compareVoid("digest", box::digest, model::digest);
        keepSome(slot, true);
    }

    /** Two slots get keys of any size, and each has its mac. */
    private void macBehindMac(int slot, int next) {
        stretchSome(next, near(1, 128));
        keepSome(next, true);
        stretchSome(next, near(1, 128));
        keepSome(slot, true);
        compareVoid("mac " + next, () -> box.mac(next), () -> model.mac(next));
        compareVoid("mac " + slot, () -> box.mac(slot), () -> model.mac(slot));
        readOut();
    }

    private void stretchSome(int slot, int n) {
        compareVoid("stretch " + slot + " " + n, () -> box.stretch(slot, n), () -> model.stretch(slot, n));
    }

    private void labelSome(int slot, int w, int n) {
        compareVoid("label " + slot + " " + w + " " + n,
                () -> box.label(slot, w, n), () -> model.label(slot, w, n));
    }

    private void blockSome(int slot, int counter) {
        if (upTo(3) != 0) {
            compare("wipe", box::wipe, model::wipe);
            long v = random.nextLong();
            compare("feed 8 " + v, () -> box.feed(8, v), () -> model.feed(8, v));
            compare("feed 4 " + v, () -> box.feed(4, v), () -> model.feed(4, v));
        }
        compareVoid("block " + slot + " " + counter,
                () -> box.block(slot, counter), () -> model.block(slot, counter));
    }

    private void sealSome(int guard, long number, int head) {
        String call = guard + " " + number + " " + head;
        compare("seal " + call, () -> box.seal(guard, number, head), () -> model.seal(guard, number, head));
    }

    private void openSome(int guard, long number, int head) {
        String call = guard + " " + number + " " + head;
        compare("open " + call, () -> box.open(guard, number, head), () -> model.open(guard, number, head));
    }

    /** Feeds what was sealed, at times with one bit changed, and opens it. */
    private void sealAndOpen(int guard) {
        int head = upTo(Math.min(20, model.tape.length));
        long number = number();
        sealSome(guard, number, head);
        if (model.out.length > 100) {
            return;
        }
        byte[] sealed = model.out.clone();
        if (upTo(1) == 0 && sealed.length > 0) {
            sealed[upTo(sealed.length - 1)] ^= (byte) (1 << upTo(7));
        }
        compare("wipe", box::wipe, model::wipe);
        feedBytes(sealed);
        openSome(guard, number, head);
    }

    private void shieldSome(int guard, int place, boolean does) {
        String call = guard + " " + place + " " + does;
        compare("shield " + call, () -> box.shield(guard, place, does), () -> model.shield(guard, place, does));
    }

    private void readOut() {
        int k = near(0, model.out.length - 1);
        compare("out " + k, () -> box.out(k), () -> model.out(k));
        compare("outs " + k, () -> box.outs(k), () -> model.outs(k));
        if (upTo(9) == 0) {
            for (int i = 0; i < model.out.length; i += 8) {
                int at = i;
                compare("outs " + at, () -> box.outs(at), () -> model.outs(at));
            }
        }
    }
}
