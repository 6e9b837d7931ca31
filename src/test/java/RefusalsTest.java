import java.io.IOException;
import java.util.function.ToDoubleFunction;
import java.util.function.ToIntFunction;

/** Each refusal of each call, the order of refusals, each exception; and that none of them changes anything. */
public final class RefusalsTest extends Boundaries {
    private static final int LEAST = Integer.MIN_VALUE, GREATEST = Integer.MAX_VALUE;
    private static final long NAN = 0x7FF8000000000000L;
    /** How many NODES the scene has, and which of them are what. */
    private static final int NODES = 11, A_GIVEN = 0, A_NORM = 2, A_LIFT = 3, AN_ALL = 4, OF_SIX = 5, A_TIMES = 6, A_BEST = 7,
        A_SHARE = 8, EMPTY = 9;
    /** Numbers that name none of the NODES. */
    private static final int[] NO_NODES = {NODES, NODES + 1, 59, 60, 61, -1, -2, LEAST, GREATEST};
    private static final int LINES = 9;
    private static final int[] NO_LINES = {LINES, LINES + 1, 199, 200, -1, LEAST, GREATEST};
    private static final int PAIRS = 2;
    private static final int[] NO_PAIRS = {PAIRS, PAIRS + 1, 3599, 3600, -1, LEAST, GREATEST};

    private RefusalsTest() throws IOException {
        super("RefusalsTest");
    }

    public static void main(String[] args) throws IOException {
        RefusalsTest test = new RefusalsTest();
        test.sentence("Refusals are answers", "They change nothing.", test::sceneIsWorthLookingAt);
        test.making();
        test.changing();
        test.asking();
        test.explaining();
        test.orders();
        test.exceptions();
        test.checks.end();
    }

    /** NODES of each SORT, an EXPLANATION, a comparison, the other LANGUAGE: something everywhere that could be changed. */
    private static TracedSums scene() {
        TracedSums x = new TracedSums();
        give(x, 1.5);
        giveFailing(x, 2.5);
        x.norm(17);
        lifted(x, 0, 2.0);
        made(x, ALL, 0, 0, 2);
        made(x, SOME, 2, 0, 1, 3, 0, 2, 3);
        made(x, TIMES, 0, 0, 0);
        made(x, BEST, 0, 0, 3);
        made(x, SHARE, 0, 3, 0);
        x.node(ALL, 0);
        made(x, TIMES, 0, 1, 2);
        x.explain(OF_SIX);
        x.compare(A_TIMES, 10);
        x.language(1);
        return x;
    }

    private static TracedSums fullScene() {
        TracedSums x = scene();
        for (int i = NODES; i < 60; i++) {
            x.norm(i);
        }
        return x;
    }

    /** All that can be seen of a scene, and then of what it becomes: the object is not to be used after it. */
    private static String seen(TracedSums x) {
        StringBuilder seen = new StringBuilder();
        for (int what = 0; what <= 3; what++) {
            seen.append(x.about(what)).append(' ');
        }
        for (int node = 0; node < NODES; node++) {
            seen.append("\n#").append(node).append(' ').append(bits(x.value(node)));
            for (int what = 0; what <= 5; what++) {
                seen.append(' ').append(x.told(node, what));
            }
            for (int place = 0; place <= x.told(node, 2) && place < 6; place++) {
                seen.append(' ').append(x.told(node, 10 + place));
            }
        }
        for (int node = NODES; node < x.about(0); node++) {
            seen.append(' ').append(x.value(node));
        }
        seen.append(' ').append(x.factor(A_LIFT)).append(' ').append(x.packed(A_NORM, 0));
        for (int k = 0; k < x.about(1); k++) {
            seen.append("\nLINE ").append(x.line(k, 0)).append(' ').append(x.line(k, 1)).append(' ').append(x.line(k, 2));
            seen.append(' ').append(x.line(k, 3)).append(' ').append(x.line(k, 4)).append(' ').append((char) x.text(k, 4));
        }
        seen.append('\n').append(textOf(x, 2));
        for (int k = 0; k < x.about(3); k++) {
            seen.append("\npair ").append(x.parts(k, 0)).append(' ').append(x.parts(k, 1)).append(' ').append(x.parts(k, 2));
        }
        seen.append("\nthen ").append(x.holds(1, true)).append(' ').append(x.value(1)).append(' ').append(x.value(OF_SIX));
        seen.append(' ').append(x.part(EMPTY, 0)).append(' ').append(x.language(0)).append(' ').append(textOf(x, 2));
        return seen.append(' ').append(x.clear()).toString();
    }

    private void sceneIsWorthLookingAt() {
        TracedSums x = scene();
        same("NODES", x.about(0), NODES);
        same("LINES", x.about(1), LINES);
        same("pairs", x.about(3), PAIRS);
        for (int sort = GIVEN; sort <= SHARE; sort++) {
            int[] node = {A_GIVEN, AN_ALL, OF_SIX, A_TIMES, A_BEST, A_LIFT, A_NORM, A_SHARE};
            same("SORT", x.told(node[sort], 0), sort);
        }
        same("PARTS", x.told(OF_SIX, 2), 6);
        same("no PARTS", x.told(EMPTY, 2), 0);
        textIs(x, 2, "  wert #1 -");
        same("a full scene's NODES", fullScene().about(0), 60);
        String before = seen(scene());
        TracedSums other = scene();
        other.holds(A_GIVEN, false);
        if (before.equals(seen(other))) {
            checks.fail("a change is not seen");
        }
    }

    private void refused(String call, ToIntFunction<TracedSums> asked, int due) {
        refusedIn(call, scene(), asked, due, scene());
    }

    private void refusedWhenFull(String call, ToIntFunction<TracedSums> asked, int due) {
        refusedIn(call + " when full", fullScene(), asked, due, fullScene());
    }

    private void refusedIn(String call, TracedSums x, ToIntFunction<TracedSums> asked, int due, TracedSums untouched) {
        same(call, asked.applyAsInt(x), due);
        sameText("all that is seen after " + call, seen(x), seen(untouched));
    }

    private void thrown(String call, ToDoubleFunction<TracedSums> asked, String due) {
        TracedSums x = scene();
        sameText(call, thrownBy(() -> asked.applyAsDouble(x)), due);
        sameText("all that is seen after " + call, seen(x), seen(scene()));
    }

    private void making() {
        promise(2, "OUTSIDE: no number (NaN).", () -> {
            refused("given(NaN, true)", x -> x.given(NAN, true), OUTSIDE);
            refused("given(NaN, false)", x -> x.given(-1L, false), OUTSIDE);
        });
        promise(2, "FULL.", () -> {
            refusedWhenFull("given(0.0, true)", x -> x.given(0L, true), FULL);
            refusedWhenFull("given(infinite, false)", x -> x.given(bits(INFINITY), false), FULL);
        });
        promise(3, "OUTSIDE (sort; need of SOME)", () -> {
            int[] wrongSorts = {GIVEN, LIFT, NORM, 8, -1, LEAST, GREATEST};
            for (int sort : wrongSorts) {
                refused("node(" + sort + ", 1)", x -> x.node(sort, 1), OUTSIDE);
            }
            int[] wrongNeeds = {0, 7, -1, LEAST, GREATEST};
            for (int need : wrongNeeds) {
                refused("node(SOME, " + need + ")", x -> x.node(SOME, need), OUTSIDE);
            }
        });
        promise(3, "FULL.", () -> {
            int[] sorts = {ALL, SOME, TIMES, BEST, SHARE};
            for (int sort : sorts) {
                refusedWhenFull("node(" + sort + ", 1)", x -> x.node(sort, 1), FULL);
            }
        });
        promise(4, "UNKNOWN", () -> {
            for (int part : NO_NODES) {
                refused("lift(" + part + ", 1.0)", x -> lifted(x, part, 1.0), UNKNOWN);
            }
        });
        promise(4, "OUTSIDE: no number.", () -> refused("lift(0, NaN)", x -> x.lift(0, NAN), OUTSIDE));
        promise(4, "FULL.", () -> refusedWhenFull("lift(59, 1.0)", x -> lifted(x, 59, 1.0), FULL));
        promise(5, "OUTSIDE", () -> {
            refused("norm(-1)", x -> x.norm(-1), OUTSIDE);
            refused("norm(least)", x -> x.norm(LEAST), OUTSIDE);
        });
        promise(5, "FULL.", () -> {
            refusedWhenFull("norm(0)", x -> x.norm(0), FULL);
            refusedWhenFull("norm(greatest)", x -> x.norm(GREATEST), FULL);
        });
    }

    private void changing() {
        promise(6, "UNKNOWN (NODE, PART)", () -> {
            for (int node : NO_NODES) {
                refused("part(" + node + ", 0)", x -> x.part(node, 0), UNKNOWN);
                refused("part(EMPTY, " + node + ")", x -> x.part(EMPTY, node), UNKNOWN);
            }
        });
        promise(6, "STATE: GIVEN, LIFT, NORM", () -> {
            refused("part(NORM, 0)", x -> x.part(A_NORM, 0), STATE);
            refused("part(NORM, 1)", x -> x.part(A_NORM, 1), STATE);
            refused("part(LIFT, 0)", x -> x.part(A_LIFT, 0), STATE);
            refused("part(GIVEN, GIVEN)", x -> x.part(1, 0), STATE);
        });
        promise(6, "OUTSIDE: the PART does not come before the NODE", () -> {
            refused("part(EMPTY, EMPTY)", x -> x.part(EMPTY, EMPTY), OUTSIDE);
            refused("part(EMPTY, the next)", x -> x.part(EMPTY, EMPTY + 1), OUTSIDE);
            refused("part(ALL, the last)", x -> x.part(AN_ALL, NODES - 1), OUTSIDE);
        });
        promise(6, "FULL.", () -> {
            refused("part(with six, the first)", x -> x.part(OF_SIX, 0), FULL);
            refused("part(with six, the one before)", x -> x.part(OF_SIX, OF_SIX - 1), FULL);
        });
        promise(7, "UNKNOWN", () -> {
            for (int node : NO_NODES) {
                refused("holds(" + node + ", true)", x -> x.holds(node, true), UNKNOWN);
                refused("holds(" + node + ", false)", x -> x.holds(node, false), UNKNOWN);
            }
        });
        promise(7, "STATE: it is none.", () -> {
            for (int node = A_NORM; node < NODES; node++) {
                int other = node;
                refused("holds(" + node + ", false)", x -> x.holds(other, false), STATE);
                refused("holds(" + node + ", true)", x -> x.holds(other, true), STATE);
            }
        });
        promise(17, "OUTSIDE.", () -> {
            int[] wrong = {2, -1, LEAST, GREATEST};
            for (int l : wrong) {
                refused("language(" + l + ")", x -> x.language(l), OUTSIDE);
            }
        });
    }

    private void asking() {
        promise(11, "UNKNOWN", () -> {
            for (int node : NO_NODES) {
                refused("told(" + node + ", 0)", x -> x.told(node, 0), UNKNOWN);
                refused("told(" + node + ", 3)", x -> x.told(node, 3), UNKNOWN);
                refused("told(" + node + ", 15)", x -> x.told(node, 15), UNKNOWN);
            }
        });
        promise(11, "OUTSIDE.", () -> {
            int[] wrong = {-1, 6, 7, 8, 9, 16, 17, LEAST, LEAST + 10, GREATEST};
            for (int what : wrong) {
                refused("told(with six, " + what + ")", x -> x.told(OF_SIX, what), OUTSIDE);
                refused("told(BEST, " + what + ")", x -> x.told(A_BEST, what), OUTSIDE);
            }
        });
        promise(12, "UNKNOWN (NODE).", () -> {
            for (int node : NO_NODES) {
                refused("input(" + node + ", 0)", x -> x.input(node, 0), UNKNOWN);
            }
        });
        promise(13, "UNKNOWN", () -> {
            for (int node : NO_NODES) {
                refused("turned(" + node + ")", x -> x.turned(node), UNKNOWN);
            }
        });
        promise(13, "STATE: another SORT.", () -> {
            int[] others = {A_GIVEN, A_BEST, A_LIFT, A_NORM, A_SHARE};
            for (int other : others) {
                refused("turned(" + other + ")", x -> x.turned(other), STATE);
            }
        });
        promise(20, "OUTSIDE.", () -> {
            int[] wrong = {-1, 4, LEAST, GREATEST};
            for (int what : wrong) {
                refused("about(" + what + ")", x -> x.about(what), OUTSIDE);
            }
        });
    }

    private void explaining() {
        promise(14, "UNKNOWN.", () -> {
            for (int node : NO_NODES) {
                refused("explain(" + node + ")", x -> x.explain(node), UNKNOWN);
            }
        });
        promise(15, "UNKNOWN", () -> {
            for (int k : NO_LINES) {
                refused("line(" + k + ", 0)", x -> x.line(k, 0), UNKNOWN);
                refused("line(" + k + ", 4)", x -> x.line(k, 4), UNKNOWN);
            }
        });
        promise(15, "OUTSIDE.", () -> {
            int[] wrong = {-1, 5, LEAST, GREATEST};
            for (int what : wrong) {
                refused("line(0, " + what + ")", x -> x.line(0, what), OUTSIDE);
                refused("line(the last, " + what + ")", x -> x.line(LINES - 1, what), OUTSIDE);
            }
        });
        promise(18, "UNKNOWN.", () -> {
            for (int node : NO_NODES) {
                refused("compare(" + node + ", 0)", x -> x.compare(node, 0), UNKNOWN);
                refused("compare(0, " + node + ")", x -> x.compare(0, node), UNKNOWN);
                refused("compare(both " + node + ")", x -> x.compare(node, node), UNKNOWN);
            }
        });
        promise(19, "UNKNOWN", () -> {
            for (int k : NO_PAIRS) {
                refused("parts(" + k + ", 0)", x -> x.parts(k, 0), UNKNOWN);
                refused("parts(" + k + ", 2)", x -> x.parts(k, 2), UNKNOWN);
            }
        });
        promise(19, "OUTSIDE.", () -> {
            int[] wrong = {-1, 3, LEAST, GREATEST};
            for (int what : wrong) {
                refused("parts(0, " + what + ")", x -> x.parts(0, what), OUTSIDE);
                refused("parts(the last, " + what + ")", x -> x.parts(PAIRS - 1, what), OUTSIDE);
            }
        });
    }

    private void orders() {
        String first = "of several the one told first";
        refusal(first, () -> {
            refusedWhenFull("given(NaN, true)", x -> x.given(NAN, true), OUTSIDE);
            refusedWhenFull("node(GIVEN, 1)", x -> x.node(GIVEN, 1), OUTSIDE);
            refusedWhenFull("node(SOME, 0)", x -> x.node(SOME, 0), OUTSIDE);
            refusedWhenFull("node(SOME, 7)", x -> x.node(SOME, 7), OUTSIDE);
            refusedWhenFull("norm(-1)", x -> x.norm(-1), OUTSIDE);
        });
        refusal(first, () -> {
            refused("lift(11, NaN)", x -> x.lift(NODES, NAN), UNKNOWN);
            refused("lift(-1, NaN)", x -> x.lift(-1, NAN), UNKNOWN);
            refusedWhenFull("lift(60, 1.0)", x -> lifted(x, 60, 1.0), UNKNOWN);
            refusedWhenFull("lift(60, NaN)", x -> x.lift(60, NAN), UNKNOWN);
            refusedWhenFull("lift(0, NaN)", x -> x.lift(0, NAN), OUTSIDE);
        });
        refusal(first, this::orderOfPart);
        refusal(first, () -> {
            refused("told(11, 6)", x -> x.told(NODES, 6), UNKNOWN);
            refused("told(-1, 16)", x -> x.told(-1, 16), UNKNOWN);
            refused("input(11, -1)", x -> x.input(NODES, -1), UNKNOWN);
            refused("input(-1, 60)", x -> x.input(-1, 60), UNKNOWN);
            refused("line(9, 5)", x -> x.line(LINES, 5), UNKNOWN);
            refused("line(-1, -1)", x -> x.line(-1, -1), UNKNOWN);
            refused("parts(2, 3)", x -> x.parts(PAIRS, 3), UNKNOWN);
            refused("parts(-1, -1)", x -> x.parts(-1, -1), UNKNOWN);
        });
    }

    /** Promise 6 tells UNKNOWN, STATE, OUTSIDE and FULL in this order. */
    private void orderOfPart() {
        refused("UNKNOWN before STATE, the PART", x -> x.part(A_GIVEN, NODES), UNKNOWN);
        refused("UNKNOWN before STATE, the PART of a LIFT", x -> x.part(A_LIFT, -1), UNKNOWN);
        refused("UNKNOWN before FULL", x -> x.part(OF_SIX, NODES), UNKNOWN);
        refused("UNKNOWN twice", x -> x.part(NODES, NODES), UNKNOWN);
        refused("STATE before OUTSIDE, a GIVEN in itself", x -> x.part(A_GIVEN, A_GIVEN), STATE);
        refused("STATE before OUTSIDE, a later one in a NORM", x -> x.part(A_NORM, AN_ALL), STATE);
        refused("STATE before OUTSIDE, a later one in a LIFT", x -> x.part(A_LIFT, OF_SIX), STATE);
        refused("OUTSIDE before FULL, one with six in itself", x -> x.part(OF_SIX, OF_SIX), OUTSIDE);
        refused("OUTSIDE before FULL, a later one in one with six", x -> x.part(OF_SIX, A_TIMES), OUTSIDE);
    }

    private void exceptions() {
        promise(8, "ArrayIndexOutOfBoundsException: there is none.", () -> {
            for (int node : NO_NODES) {
                thrown("value(" + node + ")", x -> x.value(node), NO_INDEX);
            }
            thrown("value(the last)", x -> x.value(NODES - 1), "nothing");
            valueThrows(new TracedSums(), 0, NO_INDEX);
        });
        promise(9, "ArrayIndexOutOfBoundsException: there is no such NODE", () -> {
            for (int node : NO_NODES) {
                thrown("factor(" + node + ")", x -> x.factor(node), NO_INDEX);
            }
            factorThrows(new TracedSums(), 0, NO_INDEX);
        });
        promise(9, "ClassCastException: it is no LIFT.", () -> {
            for (int node = 0; node < NODES; node++) {
                int asked = node;
                thrown("factor(" + node + ")", x -> x.factor(asked), node == A_LIFT ? "nothing" : NO_CAST);
            }
        });
        promise(10, "ArrayIndexOutOfBoundsException: there is no such NODE", () -> {
            int[] whats = {0, 1, 2, -1};
            for (int node : NO_NODES) {
                for (int what : whats) {
                    thrown("packed(" + node + ", " + what + ")", x -> x.packed(node, what), NO_INDEX);
                }
            }
            packedThrows(new TracedSums(), 0, 0, NO_INDEX);
        });
        promise(10, "ClassCastException: it is no NORM.", () -> {
            int[] whats = {0, 1, 2, -1};
            for (int node = 0; node < NODES; node++) {
                for (int what : whats) {
                    int asked = node;
                    String due = node == A_NORM ? "nothing" : NO_CAST;
                    thrown("packed(" + node + ", " + what + ")", x -> x.packed(asked, what), due);
                }
            }
        });
        promise(16, "ArrayIndexOutOfBoundsException: no such LINE, byte.", () -> {
            for (int k : NO_LINES) {
                thrown("text(" + k + ", 0)", x -> x.text(k, 0), NO_INDEX);
                thrown("text(" + k + ", -1)", x -> x.text(k, -1), NO_INDEX);
            }
            int[] wrong = {11, 12, -1, LEAST, GREATEST};
            for (int i : wrong) {
                thrown("text(2, " + i + ")", x -> x.text(2, i), NO_INDEX);
            }
            thrown("text(2, 10)", x -> x.text(2, 10), "nothing");
        });
    }
}
