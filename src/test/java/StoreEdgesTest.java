import java.util.LinkedHashMap;
import java.util.Map;

/** The sentences of 'Terms' on the tape, the OUT and the slots. */
public final class StoreEdgesTest {
    private static final byte[] NONE = new byte[0];
    private static final byte[] SECRET = Check.sample(32, 1);
    private static final byte[] KEY = Reference.label(SECRET, 0, NONE, 32);
    private static final byte[] IV = Reference.label(SECRET, 1, NONE, 12);
    private static final byte[] HIDE = Reference.label(SECRET, 2, NONE, 32);
    private static final byte[] TAPE = Check.sample(40, 2);

    public static void main(String[] args) {
        Check.sentence("BYTES are 0 .. 255", StoreEdgesTest::bytesAre0To255);
        Check.sentence("The TAPE has .. none at first.", StoreEdgesTest::tapeNoneAtFirst);
        Check.sentence("The TAPE has at most 2048 bytes,", StoreEdgesTest::tapeAtMost2048);
        Check.sentence("wipe: The tape is empty: how many it had.", StoreEdgesTest::wipeTellsHowMany);
        Check.sentence("A call that is said to read it uses it up: it is empty then.",
                StoreEdgesTest::readingUsesItUp);
        Check.sentence("A call that is said to read it uses it up (and no other)",
                StoreEdgesTest::otherCallsLeaveTheTape);
        Check.sentence("The OUT has .. none at first;", StoreEdgesTest::outNoneAtFirst);
        Check.sentence("The OUT has at most 2064 bytes,", StoreEdgesTest::outAtMost2064);
        Check.sentence("a call that makes it makes it anew.", StoreEdgesTest::outIsMadeAnew);
        Check.sentence("a call that makes it makes it anew (and no other)", StoreEdgesTest::otherCallsLeaveTheOut);
        Check.sentence("SLOTS .. none at first.", StoreEdgesTest::slotsNoneAtFirst);
        Check.sentence("SLOTS 0 .. 7 hold 0 to 128 bytes each,", StoreEdgesTest::slotsHold0To128);
        Check.sentence("An object is used for at most 512 calls after it has been made",
                StoreEdgesTest::call512);
        Check.end();
    }

    private static void bytesAre0To255() {
        SealBox box = Check.armedBox(0, SECRET);
        for (int b = 0; b < 256; b++) {
            box.feed(1, b - 256L * (b % 3));
        }
        box.seal(0, 0, 200);
        for (int b = 0; b < 200; b++) {
            int due = b;
            Check.due("out(" + b + ") of a head of all bytes", due, () -> box.out(due));
        }
        SealBox high = Check.armedBox(0, SECRET);
        for (int b = 128; b < 256; b++) {
            high.feed(1, b);
        }
        high.seal(0, 0, 128);
        for (int k = 0; k < 128; k++) {
            int at = k;
            Check.due("out(" + k + ") of a head of high bytes", 128 + k, () -> high.out(at));
        }
    }

    private static void tapeNoneAtFirst() {
        Check.due("look(0) of a new box", 0, () -> new SealBox().look(0));
        Check.due("wipe() of a new box", 0, () -> new SealBox().wipe());
        Check.due("keep(0, false) of a new box", 0, () -> new SealBox().keep(0, false));
        SealBox box = new SealBox();
        box.digest();
        Check.out("a new box's digest", box, Reference.digest(NONE));
    }

    private static void tapeAtMost2048() {
        for (int n = 1; n <= 8; n++) {
            int many = n;
            SealBox box = Check.boxWithTape(2048 - n);
            Check.due("feed(" + n + ", 0) to 2048", 2048, () -> box.feed(many, 0));
            Check.badState("feed(" + n + ", 0) to 2049", () -> Check.boxWithTape(2049 - many), b -> b.feed(many, 0));
            Check.badState("feed(" + n + ", 0) of 2048", () -> Check.boxWithTape(2048), b -> b.feed(many, 0));
        }
        SealBox full = Check.boxWithTape(2048);
        full.digest();
        Check.out("the digest of a full tape", full, Reference.digest(Check.sample(2048, 2)));
    }

    private static void wipeTellsHowMany() {
        for (int size : new int[] {0, 1, 8, 2047, 2048}) {
            SealBox box = Check.boxWithTape(size);
            Check.due("wipe() of " + size, size, box::wipe);
            Check.due("look(0) behind it", 0, () -> box.look(0));
            Check.due("wipe() behind it", 0, box::wipe);
            box.digest();
            Check.out("a digest behind it", box, Reference.digest(NONE));
        }
    }

    /** Slot 0 has the secret of guard 0; slot 1 a byte; the OUT 1024 bytes, more than most calls make. */
    private static SealBox boxWith(byte[] tape) {
        SealBox box = Check.armedBox(0, SECRET);
        Check.keep(box, 1, new byte[] {1});
        box.stretch(0, 1024);
        Check.feed(box, tape);
        return box;
    }

    private static byte[] tapeFor(String call) {
        if (call.startsWith("block")) {
            return Check.sample(12, 2);
        }
        return call.equals("open(0, 7, 3)") ? Reference.seal(KEY, IV, 7, TAPE, 3) : TAPE;
    }

    private static Map<String, Check.Use> readingCalls() {
        Map<String, Check.Use> calls = makingCalls();
        calls.put("keep(1, false)", b -> b.keep(1, false));
        calls.put("wipe()", SealBox::wipe);
        return calls;
    }

    /** Every call that makes the OUT; each of them reads the tape. */
    private static Map<String, Check.Use> makingCalls() {
        Map<String, Check.Use> calls = new LinkedHashMap<>();
        calls.put("digest()", SealBox::digest);
        calls.put("mac(0)", b -> b.mac(0));
        calls.put("stretch(0, 5)", b -> b.stretch(0, 5));
        calls.put("label(0, 4, 6)", b -> b.label(0, 4, 6));
        calls.put("block(0, 9)", b -> b.block(0, 9));
        calls.put("tally(0)", b -> b.tally(0));
        calls.put("seal(0, 7, 3)", b -> b.seal(0, 7, 3));
        calls.put("open(0, 7, 3)", b -> b.open(0, 7, 3));
        calls.put("open(0, 8, 3)", b -> b.open(0, 8, 3));
        calls.put("shield(0, 2, true)", b -> b.shield(0, 2, true));
        calls.put("shield(0, 2, false)", b -> b.shield(0, 2, false));
        return calls;
    }

    private static byte[] dueOut(String call) {
        switch (call) {
            case "digest()": return Reference.digest(TAPE);
            case "mac(0)": return Reference.mac(SECRET, TAPE);
            case "stretch(0, 5)": return Reference.stretch(SECRET, TAPE, 5);
            case "label(0, 4, 6)": return Reference.label(SECRET, 4, TAPE, 6);
            case "block(0, 9)": return Reference.keyBlock(SECRET, Check.sample(12, 2), 9);
            case "tally(0)": return Reference.tally(SECRET, TAPE);
            case "seal(0, 7, 3)": return Reference.seal(KEY, IV, 7, TAPE, 3);
            case "open(0, 7, 3)": return TAPE;
            case "open(0, 8, 3)": return NONE;
            case "shield(0, 2, true)": return Reference.shield(HIDE, TAPE, 2);
            default: return Reference.unshield(HIDE, TAPE, 2);
        }
    }

    private static void readingUsesItUp() {
        readingCalls().forEach((call, use) -> {
            Check.Maker maker = () -> boxWith(tapeFor(call));
            Check.due("look(0) behind " + call, 0, () -> Check.after(call, maker, use).look(0));
            Check.due("wipe() behind " + call, 0, () -> Check.after(call, maker, use).wipe());
            Check.due("feed(1, 5) behind " + call, 1, () -> Check.after(call, maker, use).feed(1, 5));
            SealBox box = Check.after(call, maker, use);
            box.feed(3, 0x636261);
            box.digest();
            Check.out("a digest behind " + call, box, Reference.digest(Check.text("abc")));
        });
    }

    private static void otherCallsLeaveTheTape() {
        Map<String, Check.Use> calls = new LinkedHashMap<>();
        calls.put("keep(1, true)", b -> b.keep(1, true));
        calls.put("arm(1, 0)", b -> b.arm(1, 0));
        calls.put("turn(0)", b -> b.turn(0));
        calls.put("out(0)", b -> b.out(0));
        calls.put("outs(0)", b -> b.outs(0));
        calls.put("look(0)", b -> b.look(0));
        calls.forEach((call, use) -> {
            SealBox box = Check.after(call, StoreEdgesTest::boxWithShortOut, use);
            box.digest();
            Check.out("the tape's digest behind " + call, box, Reference.digest(TAPE));
        });
    }

    private static SealBox boxWithShortOut() {
        SealBox box = boxWith(NONE);
        box.stretch(0, 50);
        Check.feed(box, TAPE);
        return box;
    }

    private static void outNoneAtFirst() {
        Check.due("look(1) of a new box", 0, () -> new SealBox().look(1));
        Check.due("keep(0, true) of a new box", 0, () -> new SealBox().keep(0, true));
        Check.noElement("out(0) of a new box", SealBox::new, b -> b.out(0));
        Check.noElement("outs(0) of a new box", SealBox::new, b -> b.outs(0));
    }

    private static SealBox boxWithFullOut() {
        SealBox box = Check.armedBox(0, SECRET);
        Check.feed(box, Check.sample(2048, 3));
        box.seal(0, 7, 100);
        return box;
    }

    /** Two boxes, since all the bytes of one would be more than 512 calls. */
    private static void outAtMost2064() {
        byte[] due = Reference.seal(KEY, IV, 7, Check.sample(2048, 3), 100);
        SealBox low = boxWithFullOut();
        SealBox high = boxWithFullOut();
        Check.due("look(1) of a full OUT", 2064, () -> low.look(1));
        for (int k = 0; k < 2064; k += 8) {
            int at = k;
            Check.due("outs(" + k + ")", lowestFirst(due, k), () -> (at < 1032 ? low : high).outs(at));
        }
        Check.due("out(2063)", due[2063] & 255, () -> high.out(2063));
        Check.due("outs(2063)", due[2063] & 255, () -> high.outs(2063));
        Check.same("out(2064)", "throws.NoSuchElementException", Check.answerOf(() -> high.out(2064)));
        Check.same("outs(2064)", "throws.NoSuchElementException", Check.answerOf(() -> high.outs(2064)));
    }

    private static long lowestFirst(byte[] bytes, int k) {
        long number = 0;
        for (int i = k + 7; i >= k; i--) {
            number = number * 256 + (bytes[i] & 255);
        }
        return number;
    }

    private static void outIsMadeAnew() {
        makingCalls().forEach((call, use) -> {
            SealBox box = Check.after(call, () -> boxWith(tapeFor(call)), use);
            byte[] due = dueOut(call);
            Check.due("look(1) behind " + call, due.length, () -> box.look(1));
            Check.out(call + " behind 1024 bytes", box, due);
            Check.same("the byte behind the last", "throws.NoSuchElementException",
                    Check.answerOf(() -> box.out(due.length)));
        });
    }

    private static void otherCallsLeaveTheOut() {
        Map<String, Check.Use> calls = new LinkedHashMap<>();
        calls.put("feed(8, 0)", b -> b.feed(8, 0));
        calls.put("wipe()", SealBox::wipe);
        calls.put("keep(1, false)", b -> b.keep(1, false));
        calls.put("keep(1, true)", b -> b.keep(1, true));
        calls.put("arm(1, 0)", b -> b.arm(1, 0));
        calls.put("turn(0)", b -> b.turn(0));
        calls.forEach((call, use) -> {
            SealBox box = Check.after(call, StoreEdgesTest::boxWithShortOut, use);
            Check.out(call, box, Reference.stretch(SECRET, NONE, 50));
        });
    }

    /** What a slot has is seen by a MAC under it. */
    private static void dueSlot(SealBox box, int slot, byte[] bytes) {
        Check.due("look(" + (2 + slot) + ")", bytes.length, () -> box.look(2 + slot));
        box.mac(slot);
        Check.out("a mac under slot " + slot + " of " + bytes.length, box, Reference.mac(bytes, NONE));
    }

    private static void slotsNoneAtFirst() {
        SealBox box = new SealBox();
        for (int slot = 0; slot < 8; slot++) {
            dueSlot(box, slot, NONE);
            int empty = slot;
            Check.badState("tally(" + slot + ") of a new box", SealBox::new, b -> b.tally(empty));
            Check.badState("arm(0, " + slot + ") of a new box", SealBox::new, b -> b.arm(0, empty));
        }
    }

    private static void slotsHold0To128() {
        for (int size : new int[] {128, 127, 0}) {
            SealBox box = new SealBox();
            for (int slot = 0; slot < 8; slot++) {
                Check.keep(box, slot, Check.sample(128, 9));
                Check.keep(box, slot, Check.sample(size, slot));
            }
            for (int slot = 0; slot < 8; slot++) {
                dueSlot(box, slot, Check.sample(size, slot));
            }
        }
        for (int slot = 0; slot < 8; slot++) {
            int to = slot;
            Check.badState("keep(" + slot + ", false) of 129", () -> Check.boxWithTape(129), b -> b.keep(to, false));
        }
        for (int slot : new int[] {-1, 8}) {
            Check.badArgument("keep(" + slot + ", false)", () -> Check.boxWithTape(128), b -> b.keep(slot, false));
            Check.badArgument("keep(" + slot + ", true)", () -> Check.boxWithTape(128), b -> b.keep(slot, true));
        }
    }

    /** 256 + 1 + 253 calls, then a digest, then the last one. */
    private static void call512() {
        SealBox box = Check.boxWithTape(2048);
        box.wipe();
        byte[] tape = Check.sample(2024, 5);
        Check.feed(box, tape);
        box.digest();
        Check.due("outs(8) as call 512", lowestFirst(Reference.digest(tape), 8), () -> box.outs(8));
    }
}
