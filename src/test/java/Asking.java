import java.util.function.DoubleSupplier;

/** What the tests that ask one object have in common: making NODES, and checking what is told of them. */
abstract class Asking {
    static final int NONE = -1, UNKNOWN = -101, OUTSIDE = -102, FULL = -103, STATE = -104;
    static final int GIVEN = 0, ALL = 1, SOME = 2, TIMES = 3, BEST = 4, LIFT = 5, NORM = 6, SHARE = 7;
    static final double INFINITY = Double.POSITIVE_INFINITY;
    static final String NO_INDEX = "ArrayIndexOutOfBoundsException";
    static final String NO_CAST = "ClassCastException";

    final Checks checks;

    Asking(String name) {
        checks = new Checks(name);
    }

    static long bits(double value) {
        return Double.doubleToRawLongBits(value);
    }

    static int give(TracedSums x, double value) {
        return x.given(bits(value), true);
    }

    static int giveFailing(TracedSums x, double value) {
        return x.given(bits(value), false);
    }

    static int lifted(TracedSums x, int part, double factor) {
        return x.lift(part, bits(factor));
    }

    static int made(TracedSums x, int sort, int need, int... parts) {
        int node = x.node(sort, need);
        for (int part : parts) {
            x.part(node, part);
        }
        return node;
    }

    /** NORMS without a use of their own, until there are so many NODES. */
    static void fillTo(TracedSums x, int count) {
        for (int number = x.about(0); number < count; number++) {
            x.norm(0);
        }
    }

    static String textOf(TracedSums x, int k) {
        StringBuilder text = new StringBuilder();
        int length = x.line(k, 4);
        for (int i = 0; i < length; i++) {
            text.append((char) x.text(k, i));
        }
        return text.toString();
    }

    /** What a call throws; a text told with it shows behind the name, since the document asks for none. */
    static String thrownBy(DoubleSupplier call) {
        try {
            call.getAsDouble();
            return "nothing";
        } catch (RuntimeException e) {
            String name = e.getClass().getSimpleName();
            return e.getMessage() == null ? name : name + ": " + e.getMessage();
        }
    }

    final void same(String what, long got, long due) {
        checks.same(what, got, due);
    }

    final void sameBits(String what, double got, double due) {
        checks.sameBits(what, got, due);
    }

    final void sameText(String what, String got, String due) {
        checks.sameText(what, got, due);
    }

    final void valueIs(String what, TracedSums x, int node, double due) {
        sameBits(what, x.value(node), due);
        same(what + " holds", x.told(node, 1), 1);
    }

    final void doesNotHold(String what, TracedSums x, int node) {
        sameBits(what, x.value(node), 0.0);
        same(what + " holds", x.told(node, 1), 0);
    }

    final void textIs(TracedSums x, int k, String due) {
        sameText("the text of line " + k, textOf(x, k), due);
    }

    final void lineIs(TracedSums x, int k, int node, int depth, int used, int owner) {
        same("node of line " + k, x.line(k, 0), node);
        same("depth of line " + k, x.line(k, 1), depth);
        same("use of line " + k, x.line(k, 2), used);
        same("owner of line " + k, x.line(k, 3), owner);
    }

    final void pairIs(TracedSums x, int k, int first, int second, int why) {
        same("first of pair " + k, x.parts(k, 0), first);
        same("second of pair " + k, x.parts(k, 1), second);
        same("why of pair " + k, x.parts(k, 2), why);
    }

    final void valueThrows(TracedSums x, int node, String due) {
        sameText("value(" + node + ") throws", thrownBy(() -> x.value(node)), due);
    }

    final void factorThrows(TracedSums x, int node, String due) {
        sameText("factor(" + node + ") throws", thrownBy(() -> x.factor(node)), due);
    }

    final void packedThrows(TracedSums x, int node, int what, String due) {
        sameText("packed(" + node + ", " + what + ") throws", thrownBy(() -> x.packed(node, what)), due);
    }

    final void textThrows(TracedSums x, int k, int i, String due) {
        sameText("text(" + k + ", " + i + ") throws", thrownBy(() -> x.text(k, i)), due);
    }
}
