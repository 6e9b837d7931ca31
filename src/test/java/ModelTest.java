import java.util.function.DoubleSupplier;

/** Runs of drawn calls, as many as an object is used for, each answered by TracedSums and by the Model alike. */
public final class ModelTest {
    private static final int RUNS = 12000;
    private static final int CALLS = 512;
    private static final Checks CHECKS = new Checks("ModelTest");
    private static final long[] BITS = {
        bits(0.0), bits(-0.0), bits(1.0), bits(-1.0), bits(2.0), bits(0.1), bits(0.2), bits(0.3), bits(0.7), bits(3.0),
        bits(1e308), bits(-1e308), bits(10.0), bits(1e-308), bits(Double.MIN_VALUE), bits(Double.MAX_VALUE),
        bits(Double.POSITIVE_INFINITY), bits(Double.NEGATIVE_INFINITY), bits(Double.NaN), 0x7FF0000000000001L
    };

    private long state;
    private TracedSums program;
    private Model model;
    private String called;
    private int calls;
    /** How many in a hundred new nodes give way to a new part. */
    private int partsFirst;
    private int seenPairs;
    private int seenMore;
    private int seenUnturned;

    public static void main(String[] args) {
        ModelTest test = new ModelTest();
        for (int run = 0; run < RUNS && !CHECKS.hasFailed(); run++) {
            test.run(run);
        }
        for (int run = 0; run < 200 && !CHECKS.hasFailed(); run++) {
            test.runDense(run);
        }
        CHECKS.isTrue("the runs saw long comparisons", test.seenPairs > 500);
        CHECKS.isTrue("the runs saw more lines than are kept", test.seenMore > 1000);
        CHECKS.isTrue("the runs saw sums that depend on their order", test.seenUnturned > 100);
        CHECKS.end();
    }

    private static long bits(double value) {
        return Double.doubleToRawLongBits(value);
    }

    private int draw(int bound) {
        state = state * 6364136223846793005L + 1442695040888963407L;
        return (int) ((state >>> 33) % bound);
    }

    /** Mostly a node that is there, more often a late one. */
    private int drawNode() {
        int count = model.about(0);
        int kind = draw(40);
        if (kind == 0 || count == 0) {
            return draw(64) - 2;
        }
        return kind < 20 ? count - 1 - draw(count < 5 ? count : 5) : draw(count);
    }

    private long drawBits(int tame) {
        if (draw(3) < tame) {
            return BITS[2 + draw(8)];
        }
        if (draw(10) == 0) {
            return (long) draw(1 << 30) << 34 ^ (long) draw(1 << 30) << 10 ^ draw(1 << 30);
        }
        return BITS[draw(BITS.length)];
    }

    private int drawLength() {
        return draw(20) == 0 ? -1 - draw(5) : draw(1 << 30) * 2 + 1 >> draw(31);
    }

    private void run(int run) {
        state = run * 7919L + 1L;
        draw(2);
        begin();
        int tame = draw(4);
        partsFirst = draw(80);
        while (calls < CALLS && !CHECKS.hasFailed()) {
            if (calls < 250 + draw(100)) {
                build(tame);
            } else {
                ask();
            }
            if (CHECKS.hasFailed()) {
                System.out.println("in run " + run + ", call " + calls + ": " + called);
            }
        }
    }

    private void begin() {
        program = new TracedSums();
        model = new Model();
        calls = 0;
    }

    /** Nodes of one sort with six parts each, so that comparisons find as many pairs as may be. */
    private void runDense(int run) {
        state = run * 104729L + 5L;
        draw(2);
        begin();
        int leaves = 2 + draw(19);
        for (int i = 0; i < leaves; i++) {
            answer("given", program.given(bits(i + 1.0), true), model.given(bits(i + 1.0), true));
        }
        int sort = new int[] {1, 2, 3, 4}[draw(4)];
        int reach = 2 + draw(20);
        for (int node = leaves; calls < 420 && node < 60; node++) {
            answer("node", program.node(sort, 1), model.node(sort, 1));
            for (int i = 0; i < 6; i++) {
                int part = Math.max(0, node - 1 - draw(reach));
                answer("part", program.part(node, part), model.part(node, part));
            }
        }
        while (calls < CALLS) {
            compare(model.about(0) - 1 - draw(5), model.about(0) - 1 - draw(5));
        }
    }

    private void build(int tame) {
        int kind = draw(100);
        if (kind < 36 && draw(100) < partsFirst) {
            kind = 50;
        }
        if (kind < 12) {
            long bits = drawBits(tame);
            boolean does = draw(8) > 0;
            answer("given", program.given(bits, does), model.given(bits, does));
        } else if (kind < 30) {
            int sort = draw(30) == 0 ? draw(11) - 1 : new int[] {1, 1, 1, 2, 2, 3, 3, 4, 4, 7}[draw(10)];
            int need = draw(20) == 0 ? draw(9) - 1 : 1 + draw(3);
            answer("node", program.node(sort, need), model.node(sort, need));
        } else if (kind < 33) {
            int part = drawNode();
            long bits = drawBits(tame);
            answer("lift", program.lift(part, bits), model.lift(part, bits));
        } else if (kind < 36) {
            int length = drawLength();
            answer("norm", program.norm(length), model.norm(length));
        } else if (kind < 90) {
            int node = drawNode();
            int part = draw(4) == 0 ? drawNode() : Math.max(0, node - 1 - draw(6));
            answer("part", program.part(node, part), model.part(node, part));
        } else {
            ask();
        }
    }

    private void ask() {
        int node = drawNode();
        int what = draw(20) - 2;
        switch (draw(17)) {
            case 0: {
                boolean does = draw(3) > 0;
                answer("holds", program.holds(node, does), model.holds(node, does));
                break;
            }
            case 1:
                value(node);
                break;
            case 2:
                factor(node);
                break;
            case 3:
                packed(node, draw(5) - 1);
                break;
            case 4:
            case 5:
                answer("told", program.told(node, what), model.told(node, what));
                break;
            case 6:
                answer("input", program.input(node, what), model.input(node, what));
                break;
            case 7:
                turned(node);
                break;
            case 8:
                explain(node);
                break;
            case 9:
                line(draw(1 + model.about(1)) - draw(2));
                break;
            case 10:
            case 11:
                text(draw(1 + model.about(1)) - draw(2), draw(60) - 1);
                break;
            case 12: {
                int l = draw(4) - 1;
                answer("language", program.language(l), model.language(l));
                break;
            }
            case 13:
                compare(node, drawNode());
                break;
            case 14:
                parts(draw(2 + model.about(3)) - draw(2));
                break;
            case 15: {
                int aspect = draw(6) - 1;
                answer("about", program.about(aspect), model.about(aspect));
                break;
            }
            default:
                if (draw(150) == 0) {
                    answer("clear", program.clear(), model.clear());
                }
        }
    }

    private void answer(String call, int got, int due) {
        called = call;
        calls++;
        CHECKS.same(call, got, due);
    }

    private void turned(int node) {
        int due = model.turned(node);
        answer("turned", program.turned(node), due);
        seenUnturned += due == 0 ? 1 : 0;
    }

    /** After each explanation some of its lines are looked at, and some bytes of one. */
    private void explain(int node) {
        answer("explain", program.explain(node), model.explain(node));
        seenMore += model.about(2);
        for (int i = 0; i < 8 && calls < CALLS; i++) {
            line(i == 0 ? model.about(1) - 1 : draw(model.about(1) + 2) - 1);
        }
        int k = draw(model.about(1) + 1);
        for (int i = draw(8) - 1; i < 40 && calls < CALLS; i += 1 + draw(8)) {
            text(k, i);
        }
    }

    private void line(int k) {
        int what = draw(7) - 1;
        answer("line", program.line(k, what), model.line(k, what));
    }

    private void compare(int a, int b) {
        int due = model.compare(a, b);
        answer("compare", program.compare(a, b), due);
        seenPairs = Math.max(seenPairs, due);
        for (int i = 0; i < 8 && calls < CALLS; i++) {
            parts(i == 0 ? due - 1 : draw(Math.max(due, 0) + 2) - 1);
        }
    }

    private void parts(int k) {
        int what = draw(5) - 1;
        answer("parts", program.parts(k, what), model.parts(k, what));
    }

    private void value(int node) {
        answerOrThrow("value", () -> program.value(node), () -> model.value(node));
    }

    private void factor(int node) {
        answerOrThrow("factor", () -> program.factor(node), () -> model.factor(node));
    }

    private void packed(int node, int what) {
        answerOrThrow("packed", () -> program.packed(node, what), () -> model.packed(node, what));
    }

    private void text(int k, int i) {
        answerOrThrow("text", () -> program.text(k, i), () -> model.text(k, i));
    }

    private void answerOrThrow(String call, DoubleSupplier got, DoubleSupplier due) {
        called = call;
        calls++;
        CHECKS.sameText(call, outcome(got), outcome(due));
    }

    /** The bits of what it answers, or the name of what it throws. */
    private static String outcome(DoubleSupplier call) {
        try {
            return Long.toHexString(bits(call.getAsDouble()));
        } catch (RuntimeException e) {
            return e.getClass().getName();
        }
    }
}
