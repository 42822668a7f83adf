import java.util.Arrays;
import java.util.HexFormat;

/** Counts and prints the calls whose answer is not the one that is due. */
final class Check {
    interface Call {
        long answer();
    }

    interface Act {
        void run();
    }

    interface Maker {
        SealBox make();
    }

    interface Use {
        void on(SealBox box);
    }

    /** Numbers beside and far off those of the slots. */
    static final int[] NO_SLOTS = {-1, 8, Integer.MIN_VALUE, Integer.MAX_VALUE};
    /** Numbers beside and far off those of the guards. */
    static final int[] NO_GUARDS = {-1, 4, Integer.MIN_VALUE, Integer.MAX_VALUE};

    private static int wrong = 0;
    private static String words = "";

    private Check() {
    }

    /** Runs a test of these words of the document: a wrong answer in it is printed with them. */
    static void sentence(String sentence, Act test) {
        words = "'" + sentence + "': ";
        same("the test", "ended", endOf(test));
        words = "";
    }

    /** A call that throws where it is not asked ends the test of its sentence, not those of the others. */
    private static String endOf(Act test) {
        try {
            test.run();
            return "ended";
        } catch (RuntimeException e) {
            return "threw " + e + " at " + Arrays.toString(e.getStackTrace());
        }
    }

    static void same(String what, Object want, Object got) {
        if (!want.equals(got)) {
            wrong++;
            System.out.println(words + what + " answered " + got + ", due is " + want);
        }
    }

    /** The call's answer as a text, or "throws." and the exception's name, as the issues write it. */
    static String answerOf(Call call) {
        try {
            return Long.toString(call.answer());
        } catch (RuntimeException e) {
            return "throws." + e.getClass().getSimpleName();
        }
    }

    static void due(String what, long want, Call call) {
        same(what, Long.toString(want), answerOf(call));
    }

    /** A new box on which the call was made, which must not throw. */
    static SealBox after(String what, Maker maker, Use use) {
        SealBox box = maker.make();
        due(what, 0, () -> {
            use.on(box);
            return 0;
        });
        return box;
    }

    static void out(String what, SealBox box, byte[] want) {
        same("the OUT of " + what, hex(want), hex(readOut(box)));
    }

    static void out(String what, SealBox box, String want) {
        same("the OUT of " + what, want, hex(readOut(box)));
    }

    static void badArgument(String what, Maker maker, Use use) {
        refused(what, maker, "IllegalArgumentException", use);
    }

    static void badState(String what, Maker maker, Use use) {
        refused(what, maker, "IllegalStateException", use);
    }

    static void noElement(String what, Maker maker, Use use) {
        refused(what, maker, "NoSuchElementException", use);
    }

    /** The call throws just that exception, and leaves the box like one that did not have it. */
    private static void refused(String what, Maker maker, String exception, Use use) {
        SealBox box = maker.make();
        String answer = answerOf(() -> {
            use.on(box);
            return 0;
        });
        same(what, "throws." + exception, answer);
        same("the state behind " + what, allOf(maker.make()), allOf(box));
    }

    /** All that can be told of a box, tape, slots and guards too; the box is used up by it. */
    private static String allOf(SealBox box) {
        StringBuilder all = new StringBuilder(stateOf(box));
        box.digest();
        all.append(" tape ").append(hex(readOut(box)));
        for (int slot = 0; slot < 8; slot++) {
            box.mac(slot);
            all.append(" slot ").append(hex(readOut(box)));
        }
        for (int guard = 0; guard < 4; guard++) {
            if (box.look(10 + guard) >= 0) {
                feed(box, sample(30, 1));
                box.seal(guard, 1, 3);
                all.append(" guard ").append(hex(readOut(box)));
                feed(box, sample(30, 1));
                box.shield(guard, 5, true);
                all.append(" ").append(hex(readOut(box)));
                box.turn(guard);
                box.seal(guard, 1, 0);
                all.append(" ").append(hex(readOut(box)));
            }
        }
        return all.toString();
    }

    static String stateOf(SealBox box) {
        int[] looks = new int[14];
        for (int i = 0; i < looks.length; i++) {
            looks[i] = box.look(i);
        }
        return Arrays.toString(looks) + " " + hex(readOut(box));
    }

    static byte[] readOut(SealBox box) {
        byte[] bytes = new byte[box.look(1)];
        for (int k = 0; k < bytes.length; k += 8) {
            long number = box.outs(k);
            for (int i = k; i < bytes.length && i < k + 8; i++) {
                bytes[i] = (byte) (number >>> 8 * (i - k));
            }
        }
        return bytes;
    }

    static void feed(SealBox box, byte[] bytes) {
        for (int k = 0; k < bytes.length; k += 8) {
            int n = Math.min(8, bytes.length - k);
            long number = 0;
            for (int i = 0; i < n; i++) {
                number |= (bytes[k + i] & 255L) << 8 * i;
            }
            box.feed(n, number);
        }
    }

    static void keep(SealBox box, int slot, byte[] bytes) {
        box.wipe();
        feed(box, bytes);
        box.keep(slot, false);
    }

    /** A box whose slot 0 has the secret of a guard that is armed. */
    static SealBox armedBox(int guard, byte[] secret) {
        SealBox box = new SealBox();
        keep(box, 0, secret);
        box.arm(guard, 0);
        return box;
    }

    static SealBox boxWithTape(int size) {
        SealBox box = new SealBox();
        feed(box, sample(size, 2));
        return box;
    }

    /** All slots have the same key; the OUT has 40 bytes, so that a call that is refused could spoil it. */
    static SealBox boxWithKeys(byte[] key, int tapeSize) {
        SealBox box = new SealBox();
        for (int slot = 0; slot < 8; slot++) {
            keep(box, slot, key);
        }
        box.stretch(0, 40);
        feed(box, sample(tapeSize, 2));
        return box;
    }

    /** n bytes that differ by place and by seed, high bits among them. */
    static byte[] sample(int n, int seed) {
        byte[] bytes = new byte[n];
        for (int i = 0; i < n; i++) {
            bytes[i] = (byte) (seed * 59 + i * 37 + (i >> 3) * 11 + 131);
        }
        return bytes;
    }

    static byte[] repeat(int b, int n) {
        byte[] bytes = new byte[n];
        Arrays.fill(bytes, (byte) b);
        return bytes;
    }

    static byte[] bytes(String hex) {
        return HexFormat.of().parseHex(hex);
    }

    static byte[] text(String text) {
        return text.getBytes(java.nio.charset.StandardCharsets.ISO_8859_1);
    }

    static String hex(byte[] bytes) {
        return HexFormat.of().formatHex(bytes);
    }

    /** To be called last in every main: ends with exit code 1 if an answer was wrong. */
    static void end() {
        System.out.println(wrong == 0 ? "all answers are as due" : wrong + " answers are not as due");
        if (wrong != 0) {
            System.exit(1);
        }
    }
}
