import java.util.LinkedHashMap;
import java.util.Map;

/** The sentences of 'Terms' on calls that throw. */
public final class RefusalEdgesTest {
    public static void main(String[] args) {
        Check.sentence("A call that throws changes nothing.", RefusalEdgesTest::refusedCallsChangeNothing);
        Check.sentence("Of several exceptions that hold the one listed first is thrown.",
                RefusalEdgesTest::firstListedIsThrown);
        Check.end();
    }

    /** 300 bytes on the tape, 200 in the OUT; guard 0 is armed, guard 1 turned too, guard 2 neither. */
    private static SealBox richBox() {
        SealBox box = new SealBox();
        for (int slot = 0; slot < 8; slot++) {
            Check.keep(box, slot, Check.sample(slot < 2 ? 32 : 40 + slot, slot));
        }
        box.arm(0, 0);
        box.arm(1, 1);
        box.turn(1);
        box.stretch(2, 200);
        Check.feed(box, Check.sample(300, 4));
        return box;
    }

    /** Every clause of a 'Throws ..' that can hold for the rich box, in the document's order. */
    private static Map<String, Check.Use> callsWithBadArguments() {
        Map<String, Check.Use> calls = new LinkedHashMap<>();
        calls.put("feed(0, 1)", b -> b.feed(0, 1));
        calls.put("feed(9, 1)", b -> b.feed(9, 1));
        calls.put("keep(8, false)", b -> b.keep(8, false));
        calls.put("keep(-1, true)", b -> b.keep(-1, true));
        calls.put("mac(8)", b -> b.mac(8));
        calls.put("stretch(8, 5)", b -> b.stretch(8, 5));
        calls.put("stretch(0, 0)", b -> b.stretch(0, 0));
        calls.put("stretch(0, 1025)", b -> b.stretch(0, 1025));
        calls.put("label(8, 0, 5)", b -> b.label(8, 0, 5));
        calls.put("label(0, 11, 5)", b -> b.label(0, 11, 5));
        calls.put("label(0, 0, 1025)", b -> b.label(0, 0, 1025));
        calls.put("block(8, 0)", b -> b.block(8, 0));
        calls.put("tally(8)", b -> b.tally(8));
        calls.put("arm(4, 0)", b -> b.arm(4, 0));
        calls.put("arm(0, 8)", b -> b.arm(0, 8));
        calls.put("turn(4)", b -> b.turn(4));
        calls.put("seal(4, 0, 0)", b -> b.seal(4, 0, 0));
        calls.put("seal(0, -1, 0)", b -> b.seal(0, -1, 0));
        calls.put("seal(0, 0, 301)", b -> b.seal(0, 0, 301));
        calls.put("open(4, 0, 0)", b -> b.open(4, 0, 0));
        calls.put("open(0, -1, 0)", b -> b.open(0, -1, 0));
        calls.put("open(0, 0, -1)", b -> b.open(0, 0, -1));
        calls.put("open(0, 0, 285)", b -> b.open(0, 0, 285));
        calls.put("shield(4, 1, true)", b -> b.shield(4, 1, true));
        calls.put("shield(0, 0, true)", b -> b.shield(0, 0, true));
        calls.put("shield(0, 281, false)", b -> b.shield(0, 281, false));
        return calls;
    }

    private static Map<String, Check.Use> callsInBadStates() {
        Map<String, Check.Use> calls = new LinkedHashMap<>();
        calls.put("keep(0, false)", b -> b.keep(0, false));
        calls.put("keep(0, true)", b -> b.keep(0, true));
        calls.put("label(0, 0, 5)", b -> b.label(0, 0, 5));
        calls.put("block(2, 0)", b -> b.block(2, 0));
        calls.put("block(0, 0)", b -> b.block(0, 0));
        calls.put("tally(2)", b -> b.tally(2));
        calls.put("arm(0, 2)", b -> b.arm(0, 2));
        calls.put("arm(2, 2)", b -> b.arm(2, 2));
        calls.put("turn(2)", b -> b.turn(2));
        calls.put("seal(2, 0, 0)", b -> b.seal(2, 0, 0));
        calls.put("open(2, 0, 0)", b -> b.open(2, 0, 0));
        calls.put("shield(2, 1, true)", b -> b.shield(2, 1, true));
        return calls;
    }

    private static Map<String, Check.Use> callsForNoElement() {
        Map<String, Check.Use> calls = new LinkedHashMap<>();
        calls.put("out(200)", b -> b.out(200));
        calls.put("outs(200)", b -> b.outs(200));
        calls.put("look(14)", b -> b.look(14));
        return calls;
    }

    private static void refusedCallsChangeNothing() {
        Check.Maker maker = RefusalEdgesTest::richBox;
        callsWithBadArguments().forEach((call, use) -> Check.badArgument(call, maker, use));
        callsInBadStates().forEach((call, use) -> Check.badState(call, maker, use));
        callsForNoElement().forEach((call, use) -> Check.noElement(call, maker, use));
        Check.badState("feed(8, 1) of 2041", () -> Check.boxWithTape(2041), b -> b.feed(8, 1));
        Check.noElement("all of them, one behind the other", maker, RefusalEdgesTest::refuseAll);
    }

    /** The last of the calls throws to the caller, as it does by itself. */
    private static void refuseAll(SealBox box) {
        Map<String, Check.Use> calls = callsWithBadArguments();
        calls.putAll(callsInBadStates());
        calls.putAll(callsForNoElement());
        for (Check.Use use : calls.values()) {
            Check.answerOf(() -> {
                use.on(box);
                return 0;
            });
        }
        box.look(14);
    }

    private static SealBox armedBoxWith(int size) {
        SealBox box = Check.armedBox(0, Check.sample(32, 1));
        Check.keep(box, 1, Check.sample(31, 1));
        box.stretch(0, 129);
        Check.feed(box, Check.sample(size, 4));
        return box;
    }

    /** In each of these calls an IllegalStateException would hold too. */
    private static void firstListedIsThrown() {
        Check.badArgument("feed(9, 0) of 2048", () -> Check.boxWithTape(2048), b -> b.feed(9, 0));
        Check.badArgument("feed(0, 0) of 2048", () -> Check.boxWithTape(2048), b -> b.feed(0, 0));
        Check.badArgument("keep(8, false) of 129", () -> armedBoxWith(129), b -> b.keep(8, false));
        Check.badArgument("keep(8, true) of 129", () -> armedBoxWith(0), b -> b.keep(8, true));
        Check.Maker longTape = () -> armedBoxWith(256);
        Check.badArgument("label(8, 0, 1) with 256", longTape, b -> b.label(8, 0, 1));
        Check.badArgument("label(0, 11, 1) with 256", longTape, b -> b.label(0, 11, 1));
        Check.badArgument("label(0, 0, 0) with 256", longTape, b -> b.label(0, 0, 0));
        Check.badArgument("label(0, 0, 1025) with 256", longTape, b -> b.label(0, 0, 1025));
        Check.badArgument("block(8, 0) with 13", () -> armedBoxWith(13), b -> b.block(8, 0));
        Check.badArgument("tally(-1)", SealBox::new, b -> b.tally(-1));
        Check.badArgument("arm(4, 1), the slot having 31", () -> armedBoxWith(0), b -> b.arm(4, 1));
        Check.badArgument("arm(-1, 7), the slot being empty", () -> armedBoxWith(0), b -> b.arm(-1, 7));
        Check.badArgument("turn(4) of a new box", SealBox::new, b -> b.turn(4));
        Check.badArgument("seal(4, 0, 0) of a new box", SealBox::new, b -> b.seal(4, 0, 0));
        Check.badArgument("seal(1, -1, 0), not armed", longTape, b -> b.seal(1, -1, 0));
        Check.badArgument("seal(1, 0, -1), not armed", longTape, b -> b.seal(1, 0, -1));
        Check.badArgument("seal(1, 0, 257), not armed", longTape, b -> b.seal(1, 0, 257));
        Check.badArgument("open(1, -1, 0), not armed", longTape, b -> b.open(1, -1, 0));
        Check.badArgument("open(1, 0, -1), not armed", longTape, b -> b.open(1, 0, -1));
        Check.badArgument("open(1, 0, 241), not armed", longTape, b -> b.open(1, 0, 241));
        Check.badArgument("open(1, 0, 0) of none, not armed", SealBox::new, b -> b.open(1, 0, 0));
        Check.badArgument("shield(1, 0, true), not armed", longTape, b -> b.shield(1, 0, true));
        Check.badArgument("shield(1, 237, false), not armed", longTape, b -> b.shield(1, 237, false));
        Check.badArgument("shield(1, 1, true) of none, not armed", SealBox::new, b -> b.shield(1, 1, true));
    }
}
