/** For each promise: ordinary inputs, the edges that the document names, and wrong inputs. */
public final class PromisesTest extends Asking {

    private PromisesTest() {
        super("PromisesTest");
    }

    public static void main(String[] args) {
        PromisesTest test = new PromisesTest();
        test.all();
        test.checks.end();
    }

    private void all() {
        newObject();
        given();
        givenBits();
        node();
        sums();
        products();
        best();
        share();
        noNumber();
        lift();
        norm();
        part();
        holds();
        value();
        factor();
        packed();
        told();
        cause();
        inputs();
        turned();
        explain();
        explainUsed();
        explainAtMost200();
        line();
        text();
        language();
        compare();
        comparePairsOnce();
        parts();
        about();
        clear();
        full();
    }

    // Promise 1
    private void newObject() {
        same("NONE", TracedSums.NONE, NONE);
        same("UNKNOWN", TracedSums.UNKNOWN, UNKNOWN);
        same("OUTSIDE", TracedSums.OUTSIDE, OUTSIDE);
        same("FULL", TracedSums.FULL, FULL);
        same("STATE", TracedSums.STATE, STATE);
        TracedSums x = new TracedSums();
        for (int what = 0; what <= 3; what++) {
            same("about(" + what + ") of a new object", x.about(what), 0);
        }
        same("told of a new object", x.told(0, 0), UNKNOWN);
        same("line of a new object", x.line(0, 0), UNKNOWN);
        same("parts of a new object", x.parts(0, 0), UNKNOWN);
        same("language of a new object", x.language(0), 0);
        TracedSums y = new TracedSums();
        give(y, 1.0);
        same("two objects have nothing in common", x.about(0), 0);
    }

    // Promise 2
    private void given() {
        TracedSums x = new TracedSums();
        same("the first number", give(x, 1.5), 0);
        same("the second number", giveFailing(x, 2.5), 1);
        valueIs("given", x, 0, 1.5);
        doesNotHold("given that does not hold", x, 1);
        same("given, NaN", x.given(0x7FF8000000000000L, true), OUTSIDE);
        same("given, least NaN", x.given(0x7FF0000000000001L, true), OUTSIDE);
        same("given, greatest NaN", x.given(0x7FFFFFFFFFFFFFFFL, false), OUTSIDE);
        same("given, negative NaN", x.given(-1L, true), OUTSIDE);
        same("given, least negative NaN", x.given(0xFFF0000000000001L, true), OUTSIDE);
        same("refusals change nothing", x.about(0), 2);
    }

    private void givenBits() {
        long[] bits = {
            0L, 1L, 2L, 3L, Long.MIN_VALUE, Long.MIN_VALUE | 1L, 0x000FFFFFFFFFFFFFL, 0x0010000000000000L,
            0x0010000000000001L, 0x001FFFFFFFFFFFFFL, 0x0020000000000000L, 0x3FF0000000000000L, 0x3FF0000000000001L,
            0x3FEFFFFFFFFFFFFFL, 0xBFF8000000000000L, 0x4340000000000001L, 0x432FFFFFFFFFFFFFL, 0x4330000000000001L,
            0x7FEFFFFFFFFFFFFFL, 0xFFEFFFFFFFFFFFFFL, 0x7FF0000000000000L, 0xFFF0000000000000L, 0x7FE0000000000000L,
            0x0008000000000001L, 0x800FFFFFFFFFFFFFL, 0x3FB999999999999AL, 0x400921FB54442D18L
        };
        TracedSums x = new TracedSums();
        for (int i = 0; i < bits.length; i++) {
            same("a given's number", x.given(bits[i], true), i);
            same("the bits of a given", Double.doubleToRawLongBits(x.value(i)), bits[i]);
        }
        TracedSums y = new TracedSums();
        give(y, 1.0);
        for (int exponent = 0; exponent < 59; exponent++) {
            long some = (long) exponent * 35L << 52 | 0xF00DFACE12345L;
            y.lift(0, some);
            same("the bits of a factor", Double.doubleToRawLongBits(y.factor(exponent + 1)), some);
        }
    }

    // Promise 3
    private void node() {
        TracedSums x = new TracedSums();
        same("ALL", x.node(ALL, -5), 0);
        same("SOME, least need", x.node(SOME, 1), 1);
        same("SOME, greatest need", x.node(SOME, 6), 2);
        same("TIMES", x.node(TIMES, 0), 3);
        same("BEST", x.node(BEST, 7), 4);
        same("SHARE", x.node(SHARE, Integer.MIN_VALUE), 5);
        same("SOME, need 0", x.node(SOME, 0), OUTSIDE);
        same("SOME, need 7", x.node(SOME, 7), OUTSIDE);
        int[] wrong = {0, 5, 6, 8, -1, Integer.MAX_VALUE, Integer.MIN_VALUE};
        for (int sort : wrong) {
            same("sort " + sort, x.node(sort, 1), OUTSIDE);
        }
        int[] sorts = {ALL, SOME, SOME, TIMES, BEST, SHARE};
        for (int i = 0; i < sorts.length; i++) {
            same("the sort", x.told(i, 0), sorts[i]);
            same("no parts", x.told(i, 2), 0);
        }
        valueIs("ALL without parts", x, 0, 0.0);
        doesNotHold("SOME without parts", x, 1);
        valueIs("TIMES without parts", x, 3, 1.0);
        doesNotHold("BEST without parts", x, 4);
        doesNotHold("SHARE without parts", x, 5);
    }

    private void sums() {
        TracedSums x = new TracedSums();
        int a = give(x, 0.1);
        int b = give(x, 0.2);
        int c = give(x, 0.3);
        int no = giveFailing(x, 100.0);
        int zero = give(x, -0.0);
        valueIs("ALL in order", x, made(x, ALL, 0, a, b, c), 0.1 + 0.2 + 0.3);
        valueIs("ALL in another order", x, made(x, ALL, 0, c, b, a), 0.3 + 0.2 + 0.1);
        doesNotHold("ALL with one that does not hold", x, made(x, ALL, 0, a, no, c));
        valueIs("ALL from 0.0 on", x, made(x, ALL, 0, zero), 0.0);
        valueIs("ALL of one twice", x, made(x, ALL, 0, a, a), 0.2);
        valueIs("SOME with as many as it needs", x, made(x, SOME, 2, a, no, c), 0.1 + 0.3);
        valueIs("SOME with more", x, made(x, SOME, 1, c, no, b, a), 0.3 + 0.2 + 0.1);
        doesNotHold("SOME with too few", x, made(x, SOME, 3, a, no, c));
        valueIs("SOME counts a node there twice as two", x, made(x, SOME, 2, no, a, a), 0.2);
        valueIs("SOME from 0.0 on", x, made(x, SOME, 1, zero), 0.0);
    }

    private void products() {
        TracedSums x = new TracedSums();
        int a = give(x, 0.1);
        int b = give(x, 0.7);
        int c = give(x, 3.0);
        int no = giveFailing(x, 100.0);
        int zero = give(x, -0.0);
        valueIs("TIMES in order", x, made(x, TIMES, 0, a, b, c), 0.1 * 0.7 * 3.0);
        valueIs("TIMES in another order", x, made(x, TIMES, 0, c, b, a), 3.0 * 0.7 * 0.1);
        valueIs("TIMES keeps the sign of zero", x, made(x, TIMES, 0, zero), -0.0);
        doesNotHold("TIMES with one that does not hold", x, made(x, TIMES, 0, a, no));
    }

    private void best() {
        TracedSums x = new TracedSums();
        int small = give(x, -5.0);
        int great = give(x, 7.0);
        int equal = give(x, 7.0);
        int no = giveFailing(x, 9.0);
        int minusZero = give(x, -0.0);
        int zero = give(x, 0.0);
        int best = made(x, BEST, 0, small, no, great, equal);
        valueIs("BEST", x, best, 7.0);
        same("the winner is the first of equals", x.told(best, 3), great);
        int alone = made(x, BEST, 0, no, small);
        valueIs("BEST of what is below 0.0", x, alone, -5.0);
        same("its winner", x.told(alone, 3), small);
        int zeros = made(x, BEST, 0, minusZero, zero);
        valueIs("0.0 is not greater than -0.0", x, zeros, -0.0);
        same("its winner", x.told(zeros, 3), minusZero);
        int none = made(x, BEST, 0, no);
        doesNotHold("BEST of none", x, none);
        same("no winner", x.told(none, 3), NONE);
        same("a winner that no longer holds", x.holds(great, false), 1);
        same("the next one wins", x.told(best, 3), equal);
    }

    private void share() {
        TracedSums x = new TracedSums();
        int a = give(x, 1.0);
        int b = give(x, 3.0);
        int no = giveFailing(x, 3.0);
        int zero = give(x, 0.0);
        int minusZero = give(x, -0.0);
        int share = made(x, SHARE, 0, a);
        doesNotHold("SHARE of one", x, share);
        x.part(share, b);
        valueIs("SHARE of two", x, share, 1.0 / 3.0);
        x.part(share, b);
        doesNotHold("SHARE of three", x, share);
        doesNotHold("SHARE of three of which two hold", x, made(x, SHARE, 0, a, b, no));
        doesNotHold("SHARE whose first does not hold", x, made(x, SHARE, 0, no, a));
        doesNotHold("SHARE whose second does not hold", x, made(x, SHARE, 0, a, no));
        valueIs("SHARE by 0.0", x, made(x, SHARE, 0, a, zero), INFINITY);
        valueIs("SHARE by -0.0", x, made(x, SHARE, 0, a, minusZero), -INFINITY);
        valueIs("SHARE of 0.0", x, made(x, SHARE, 0, zero, b), 0.0);
    }

    private void noNumber() {
        TracedSums x = new TracedSums();
        int infinite = give(x, INFINITY);
        int below = give(x, -INFINITY);
        int zero = give(x, 0.0);
        int huge = give(x, 1e308);
        int ten = give(x, 10.0);
        valueIs("infinite and infinite", x, made(x, ALL, 0, infinite, infinite), INFINITY);
        doesNotHold("ALL that is no number", x, made(x, ALL, 0, infinite, ten, below, ten));
        doesNotHold("SOME that is no number", x, made(x, SOME, 1, below, infinite));
        doesNotHold("TIMES that is no number", x, made(x, TIMES, 0, zero, infinite, ten));
        doesNotHold("TIMES that overflows before it meets 0.0", x, made(x, TIMES, 0, huge, ten, zero));
        valueIs("TIMES that meets 0.0 before it overflows", x, made(x, TIMES, 0, zero, huge, ten), 0.0);
        doesNotHold("SHARE of zeros", x, made(x, SHARE, 0, zero, zero));
        doesNotHold("SHARE of infinite ones", x, made(x, SHARE, 0, below, infinite));
        doesNotHold("LIFT of infinite by zero", x, lifted(x, infinite, -0.0));
        doesNotHold("LIFT of zero by infinite", x, lifted(x, zero, -INFINITY));
        valueIs("LIFT of infinite", x, lifted(x, below, -2.0), INFINITY);
    }

    // Promise 4
    private void lift() {
        TracedSums x = new TracedSums();
        int a = give(x, 0.1);
        int no = giveFailing(x, 1.0);
        same("a lift's number", lifted(x, a, 3.0), 2);
        valueIs("LIFT", x, 2, 0.1 * 3.0);
        same("its sort", x.told(2, 0), 5);
        same("its parts", x.told(2, 2), 1);
        same("its part", x.told(2, 10), a);
        doesNotHold("LIFT of what does not hold", x, lifted(x, no, 3.0));
        same("lift, unknown", x.lift(4, 0L), UNKNOWN);
        same("lift, unknown below", x.lift(-1, 0L), UNKNOWN);
        same("lift, unknown before outside", x.lift(4, -1L), UNKNOWN);
        same("lift, no number", x.lift(a, 0x7FF0000000000001L), OUTSIDE);
        same("refusals change nothing", x.about(0), 4);
    }

    // Promise 5
    private void norm() {
        int[] lengths = {0, 7, 8, 15, 16, 17, 18, 31, 32, 35, 36, 1000, 1 << 30, Integer.MAX_VALUE};
        int[] packed = {0, 7, 8, 15, 16, 16, 17, 23, 24, 24, 25, 63, 224, 231};
        int[] unpacked = {0, 7, 8, 15, 16, 16, 18, 30, 32, 32, 36, 960, 1 << 30, 2013265920};
        TracedSums x = new TracedSums();
        for (int i = 0; i < lengths.length; i++) {
            same("a norm's number", x.norm(lengths[i]), i);
            same("length", x.packed(i, 0), lengths[i]);
            same("packed " + lengths[i], x.packed(i, 1), packed[i]);
            same("unpacked " + lengths[i], x.packed(i, 2), unpacked[i]);
            valueIs("NORM of " + lengths[i], x, i, unpacked[i]);
            same("its sort", x.told(i, 0), 6);
        }
        same("norm, below 0", x.norm(-1), OUTSIDE);
        same("norm, far below 0", x.norm(Integer.MIN_VALUE), OUTSIDE);
        same("refusals change nothing", x.about(0), lengths.length);
    }

    // Promise 6
    private void part() {
        TracedSums x = new TracedSums();
        int a = give(x, 1.0);
        int norm = x.norm(4);
        int lift = lifted(x, a, 2.0);
        int all = x.node(ALL, 0);
        int upper = x.node(ALL, 0);
        same("part, node unknown", x.part(5, a), UNKNOWN);
        same("part, part unknown", x.part(all, 5), UNKNOWN);
        same("part, part unknown before state", x.part(a, 5), UNKNOWN);
        same("part, below 0", x.part(all, -1), UNKNOWN);
        same("part of a GIVEN", x.part(a, a), STATE);
        same("part of a NORM", x.part(norm, a), STATE);
        same("part of a LIFT", x.part(lift, a), STATE);
        same("state before outside", x.part(a, all), STATE);
        same("part of itself", x.part(all, all), OUTSIDE);
        same("part that comes later", x.part(all, upper), OUTSIDE);
        same("refusals change nothing", x.told(all, 2), 0);
        x.part(upper, all);
        for (int i = 1; i <= 6; i++) {
            same("how many parts", x.part(all, a), i);
            valueIs("the sum", x, all, i);
            valueIs("the sum above", x, upper, i);
        }
        same("part, full", x.part(all, a), FULL);
        same("part, outside before full", x.part(all, all), OUTSIDE);
        same("still six", x.told(all, 2), 6);
    }

    // Promise 7
    private void holds() {
        TracedSums x = new TracedSums();
        int a = giveFailing(x, 2.5);
        int all = made(x, ALL, 0, a);
        int upper = made(x, BEST, 0, all);
        same("it did not", x.holds(a, true), 0);
        valueIs("its value is there", x, a, 2.5);
        valueIs("and above it", x, upper, 2.5);
        same("it did, and does", x.holds(a, true), 1);
        same("it did, and does not", x.holds(a, false), 1);
        doesNotHold("and above it", x, upper);
        same("it did not, and does not", x.holds(a, false), 0);
        same("holds, no GIVEN", x.holds(all, true), STATE);
        same("holds of a NORM", x.holds(x.norm(1), true), STATE);
        same("holds, unknown", x.holds(4, true), UNKNOWN);
        same("holds, below 0", x.holds(-1, true), UNKNOWN);
    }

    // Promise 8
    private void value() {
        TracedSums x = new TracedSums();
        valueThrows(x, 0, NO_INDEX);
        give(x, 4.5);
        valueIs("value", x, 0, 4.5);
        valueThrows(x, 1, NO_INDEX);
        valueThrows(x, -1, NO_INDEX);
        valueThrows(x, 60, NO_INDEX);
        valueThrows(x, Integer.MIN_VALUE, NO_INDEX);
    }

    // Promise 9
    private void factor() {
        TracedSums x = new TracedSums();
        factorThrows(x, 0, NO_INDEX);
        int no = giveFailing(x, 4.5);
        sameBits("factor", x.factor(lifted(x, no, -0.0)), -0.0);
        sameBits("factor", x.factor(lifted(x, no, 1.25)), 1.25);
        factorThrows(x, no, NO_CAST);
        factorThrows(x, x.norm(2), NO_CAST);
        factorThrows(x, x.node(ALL, 0), NO_CAST);
        factorThrows(x, 5, NO_INDEX);
        factorThrows(x, -1, NO_INDEX);
    }

    // Promise 10
    private void packed() {
        TracedSums x = new TracedSums();
        packedThrows(x, 0, 0, NO_INDEX);
        int norm = x.norm(1001);
        same("length", x.packed(norm, 0), 1001);
        same("packed", x.packed(norm, 1), 63);
        same("unpacked", x.packed(norm, 2), 960);
        same("any other", x.packed(norm, -1), 960);
        same("any other", x.packed(norm, Integer.MAX_VALUE), 960);
        int a = give(x, 1.0);
        packedThrows(x, a, 0, NO_CAST);
        packedThrows(x, lifted(x, a, 1.0), 9, NO_CAST);
        packedThrows(x, 3, 1, NO_INDEX);
        packedThrows(x, -1, 1, NO_INDEX);
    }

    // Promise 11
    private void told() {
        TracedSums x = new TracedSums();
        int a = give(x, 1.0);
        int no = giveFailing(x, 2.0);
        int some = made(x, SOME, 1, no, a, no);
        int best = made(x, BEST, 0, some, a, a, a, a, no);
        same("sort", x.told(some, 0), SOME);
        same("holds", x.told(some, 1), 1);
        same("does not hold", x.told(no, 1), 0);
        same("parts", x.told(some, 2), 3);
        same("no BEST", x.told(some, 3), OUTSIDE);
        same("no BEST, nor holds", x.told(no, 3), OUTSIDE);
        same("winner", x.told(best, 3), some);
        same("no cause", x.told(some, 4), NONE);
        same("inputs", x.told(some, 5), 1);
        same("part 0", x.told(some, 10), no);
        same("part 1", x.told(some, 11), a);
        same("part 2", x.told(some, 12), no);
        same("part 3", x.told(some, 13), NONE);
        same("part 5 of three", x.told(some, 15), NONE);
        same("part 5 of six", x.told(best, 15), no);
        int[] wrong = {-1, 6, 9, 16, Integer.MAX_VALUE, Integer.MIN_VALUE};
        for (int what : wrong) {
            same("told " + what, x.told(some, what), OUTSIDE);
            same("unknown before outside", x.told(4, what), UNKNOWN);
        }
        same("told, unknown", x.told(-1, 0), UNKNOWN);
    }

    private void cause() {
        TracedSums x = new TracedSums();
        int a = give(x, 1.0);
        int no = giveFailing(x, 2.0);
        int other = giveFailing(x, 2.0);
        int all = made(x, ALL, 0, a, other, no);
        int upper = made(x, TIMES, 0, a, all, no);
        same("its own cause", x.told(no, 4), no);
        same("the first part that does not hold", x.told(all, 4), other);
        same("and the first of that", x.told(upper, 4), other);
        int some = made(x, SOME, 3, a, a);
        same("no part that does not hold", x.told(some, 4), some);
        int infinite = give(x, INFINITY);
        int below = give(x, -INFINITY);
        int odd = made(x, SOME, 1, infinite, no, below);
        same("no number, but a part that does not hold", x.told(odd, 4), no);
        int odder = made(x, ALL, 0, infinite, below);
        same("no number", x.told(odder, 4), odder);
        same("above no number", x.told(lifted(x, odder, 2.0), 4), odder);
    }

    // Promises 11 and 12
    private void inputs() {
        TracedSums x = new TracedSums();
        int a = give(x, 1.0);
        int norm = x.norm(3);
        int no = giveFailing(x, 2.0);
        int some = made(x, SOME, 1, norm, no, a);
        int best = made(x, BEST, 0, a, norm);
        int lift = lifted(x, best, 2.0);
        int all = made(x, ALL, 0, lift, some);
        same("inputs of SOME", x.told(some, 5), 2);
        same("by numbers", x.input(some, 0), a);
        same("by numbers", x.input(some, 1), norm);
        same("not so many", x.input(some, 2), NONE);
        same("below 0", x.input(some, -1), NONE);
        same("far below 0", x.input(some, Integer.MIN_VALUE), NONE);
        same("inputs of BEST", x.told(best, 5), 1);
        same("the winner alone", x.input(best, 0), norm);
        same("inputs of ALL", x.told(all, 5), 2);
        same("a GIVEN is an input of itself", x.input(a, 0), a);
        same("a NORM is an input of itself", x.input(norm, 0), norm);
        same("not one that does not hold", x.told(no, 5), 0);
        same("not one that does not hold", x.input(no, 0), NONE);
        same("none of what does not hold", x.told(made(x, ALL, 0, a, no), 5), 0);
        same("input, unknown", x.input(8, 0), UNKNOWN);
        same("input, below 0", x.input(-1, 0), UNKNOWN);
        same("a node without inputs", x.told(x.node(ALL, 0), 5), 0);
        int deep = a;
        for (int i = 0; i < 40; i++) {
            deep = made(x, ALL, 0, deep, deep, deep, deep, deep, i == 39 ? norm : deep);
        }
        same("inputs behind more lines than are kept", x.told(deep, 5), 2);
        same("the last of them", x.input(deep, 1), norm);
    }

    // Promise 13
    private void turned() {
        TracedSums x = new TracedSums();
        int a = give(x, 0.1);
        int b = give(x, 0.2);
        int c = give(x, 0.3);
        int no = giveFailing(x, 1.0);
        int zero = give(x, 0.0);
        int huge = give(x, 1e308);
        int ten = give(x, 10.0);
        same("ALL, other bits", x.turned(made(x, ALL, 0, a, b, c)), 0);
        same("ALL, the same bits", x.turned(made(x, ALL, 0, a, b, a)), 1);
        same("SOME, other bits", x.turned(made(x, SOME, 2, a, no, b, c)), 0);
        same("SOME, the same bits", x.turned(made(x, SOME, 2, a, no, b)), 1);
        same("TIMES, other bits", x.turned(made(x, TIMES, 0, a, b, c)), 0);
        same("TIMES, the same bits", x.turned(made(x, TIMES, 0, a, b, a)), 1);
        same("what does not hold either way", x.turned(made(x, ALL, 0, a, b, c, no)), 1);
        same("SOME that has too few", x.turned(made(x, SOME, 4, a, b, c)), 1);
        same("0.0, for it is no number, and 0.0", x.turned(made(x, TIMES, 0, huge, ten, zero)), 1);
        same("0.0, and 0.0, for it is no number", x.turned(made(x, TIMES, 0, zero, ten, huge)), 1);
        int most = give(x, Double.MAX_VALUE);
        int least = give(x, -INFINITY);
        same("0.0, for it is no number, and infinite", x.turned(made(x, ALL, 0, most, most, least)), 0);
        same("infinite, and 0.0, for it is no number", x.turned(made(x, ALL, 0, least, most, most)), 0);
        same("without parts", x.turned(x.node(TIMES, 0)), 1);
        same("turned, a GIVEN", x.turned(a), STATE);
        same("turned, a BEST", x.turned(made(x, BEST, 0, a, b)), STATE);
        same("turned, a LIFT", x.turned(lifted(x, a, 1.0)), STATE);
        same("turned, a NORM", x.turned(x.norm(1)), STATE);
        same("turned, a SHARE", x.turned(made(x, SHARE, 0, a, b)), STATE);
        same("turned, unknown", x.turned(x.about(0)), UNKNOWN);
        same("turned, below 0", x.turned(-1), UNKNOWN);
        int sum = made(x, ALL, 0, a, b, c);
        same("its own parts alone are turned", x.turned(made(x, ALL, 0, sum)), 1);
    }

    // Promise 14
    private void explain() {
        TracedSums x = new TracedSums();
        same("explain, unknown", x.explain(0), UNKNOWN);
        int a = give(x, 1.0);
        int b = give(x, 2.0);
        int lift = lifted(x, a, 2.0);
        int all = made(x, ALL, 0, lift, b, lift);
        same("lines of a GIVEN", x.explain(a), 1);
        lineIs(x, 0, a, 0, 1, NONE);
        same("lines", x.explain(all), 6);
        lineIs(x, 0, all, 0, 1, NONE);
        lineIs(x, 1, lift, 1, 1, 0);
        lineIs(x, 2, a, 2, 1, 1);
        lineIs(x, 3, b, 1, 1, 0);
        lineIs(x, 4, lift, 1, 1, 0);
        lineIs(x, 5, a, 2, 1, 4);
        same("explain, unknown", x.explain(4), UNKNOWN);
        same("explain, below 0", x.explain(-1), UNKNOWN);
        same("refusals change nothing", x.about(1), 6);
        lineIs(x, 5, a, 2, 1, 4);
    }

    private void explainUsed() {
        TracedSums x = new TracedSums();
        int a = give(x, 1.0);
        int no = giveFailing(x, 2.0);
        int c = give(x, 1.0);
        int some = made(x, SOME, 1, no, a);
        int best = made(x, BEST, 0, c, some, c, a);
        int failing = made(x, ALL, 0, best, no);
        same("lines", x.explain(best), 7);
        lineIs(x, 0, best, 0, 1, NONE);
        lineIs(x, 1, c, 1, 1, 0);
        lineIs(x, 2, some, 1, 0, 0);
        lineIs(x, 3, no, 2, 0, 2);
        lineIs(x, 4, a, 2, 0, 2);
        lineIs(x, 5, c, 1, 0, 0);
        lineIs(x, 6, a, 1, 0, 0);
        same("lines", x.explain(some), 3);
        lineIs(x, 1, no, 1, 0, 0);
        lineIs(x, 2, a, 1, 1, 0);
        same("lines of what does not hold", x.explain(failing), 9);
        for (int k = 0; k < 9; k++) {
            same("none is used", x.line(k, 2), 0);
        }
        int share = made(x, SHARE, 0, a, c);
        same("lines of a SHARE", x.explain(share), 3);
        lineIs(x, 1, a, 1, 1, 0);
        lineIs(x, 2, c, 1, 1, 0);
    }

    private void explainAtMost200() {
        TracedSums x = new TracedSums();
        int a = give(x, 1.0);
        int six = made(x, ALL, 0, a, a, a, a, a, a);
        int most = made(x, ALL, 0, six, six, six, six, six, six);
        int twice = made(x, ALL, 0, most, most, most, most);
        same("43 lines", x.explain(most), 43);
        same("no more", x.about(2), 0);
        same("173 lines", x.explain(twice), 173);
        int upper = made(x, ALL, 0, twice, six, six, six, a, a);
        same("197 lines", x.explain(upper), 197);
        int lift = lifted(x, upper, 1.0);
        int again = lifted(x, lift, 1.0);
        int full = lifted(x, again, 1.0);
        same("200 lines", x.explain(full), 200);
        same("all of them", x.about(2), 0);
        int over = lifted(x, full, 1.0);
        same("201 lines", x.explain(over), 200);
        same("more", x.about(2), 1);
        same("its last line", x.line(199, 0), a);
        same("no line behind it", x.line(200, 0), UNKNOWN);
        same("few lines again", x.explain(six), 7);
        same("no more", x.about(2), 0);
        int deep = a;
        TracedSums y = new TracedSums();
        deep = give(y, 1.0);
        for (int i = 0; i < 59; i++) {
            deep = made(y, TIMES, 0, deep, deep);
        }
        same("deep lines", y.explain(deep), 200);
        same("the deepest", y.line(59, 1), 59);
        textIs(y, 59, " ".repeat(118) + "given #0");
        lineIs(y, 60, 0, 59, 1, 58);
    }

    // Promise 15
    private void line() {
        TracedSums x = new TracedSums();
        same("line, no explanation", x.line(0, 0), UNKNOWN);
        int a = give(x, 1.0);
        int some = made(x, SOME, 1, a);
        x.explain(some);
        same("line, unknown", x.line(2, 0), UNKNOWN);
        same("line, below 0", x.line(-1, 0), UNKNOWN);
        same("line, unknown before outside", x.line(2, 5), UNKNOWN);
        same("line, outside", x.line(1, 5), OUTSIDE);
        same("line, outside below", x.line(1, -1), OUTSIDE);
        same("length", x.line(0, 4), "some #1".length());
        same("length", x.line(1, 4), "  given #0".length());
        x.language(1);
        same("length in the language now", x.line(0, 4), "einige #1".length());
        x.holds(a, false);
        x.part(some, a);
        same("as many as then", x.about(1), 2);
        lineIs(x, 0, some, 0, 1, NONE);
        lineIs(x, 1, a, 1, 1, 0);
        same("length as then", x.line(1, 4), "  wert #0".length());
        x.explain(some);
        lineIs(x, 0, some, 0, 0, NONE);
        same("length of what is not used", x.line(1, 4), "  wert #0 -".length());
    }

    // Promise 16
    private void text() {
        TracedSums x = new TracedSums();
        textThrows(x, 0, 0, NO_INDEX);
        int a = give(x, 2.0);
        int norm = x.norm(9);
        int no = giveFailing(x, 1.0);
        int all = made(x, ALL, 0, a);
        int some = made(x, SOME, 1, all, no);
        int times = made(x, TIMES, 0, some);
        int share = made(x, SHARE, 0, times, norm);
        int lift = lifted(x, share, 4.0);
        int best = made(x, BEST, 0, lift, no);
        x.norm(1);
        int tenth = made(x, BEST, 0, best);
        x.explain(tenth);
        String[] english = {"best #10", "  best #8", "    lift #7", "      share #6", "        times #5",
            "          some #4", "            all #3", "              given #0", "            given #2 -",
            "        norm #1", "    given #2 -"};
        String[] german = {"bestes #10", "  bestes #8", "    faktor #7", "      anteil #6", "        mal #5",
            "          einige #4", "            alle #3", "              wert #0", "            wert #2 -",
            "        laenge #1", "    wert #2 -"};
        same("lines", x.about(1), english.length);
        for (int k = 0; k < english.length; k++) {
            textIs(x, k, english[k]);
        }
        x.language(1);
        for (int k = 0; k < german.length; k++) {
            textIs(x, k, german[k]);
        }
        textThrows(x, 0, 9, "nothing");
        textThrows(x, 0, 10, NO_INDEX);
        textThrows(x, 0, -1, NO_INDEX);
        textThrows(x, 11, 0, NO_INDEX);
        textThrows(x, -1, 0, NO_INDEX);
    }

    // Promise 17
    private void language() {
        TracedSums x = new TracedSums();
        same("it was 0", x.language(1), 0);
        same("it was 1", x.language(1), 1);
        same("language 2", x.language(2), OUTSIDE);
        same("language -1", x.language(-1), OUTSIDE);
        same("refusals change nothing", x.language(0), 1);
        same("it was 0 again", x.language(0), 0);
    }

    // Promise 18
    private void compare() {
        TracedSums x = new TracedSums();
        same("compare, unknown", x.compare(0, 0), UNKNOWN);
        int a = give(x, 1.0);
        int alike = give(x, 1.0);
        int b = give(x, 2.0);
        int no = giveFailing(x, 2.0);
        int otherNo = giveFailing(x, 3.0);
        int zero = give(x, 0.0);
        int minusZero = give(x, -0.0);
        same("a node and itself", x.compare(b, b), 0);
        same("like nodes", x.compare(a, alike), 0);
        same("nodes that do not hold have the same value", x.compare(no, otherNo), 0);
        same("other values", x.compare(a, b), 1);
        pairIs(x, 0, a, b, 4);
        same("other bits", x.compare(zero, minusZero), 1);
        pairIs(x, 0, zero, minusZero, 4);
        same("one does not hold", x.compare(no, zero), 1);
        pairIs(x, 0, no, zero, 3);
        int all = made(x, ALL, 0, a, b);
        int other = made(x, ALL, 0, a, a, zero);
        same("other sort first", x.compare(all, no), 1);
        pairIs(x, 0, all, no, 1);
        same("other count of parts", x.compare(all, other), 1);
        pairIs(x, 0, all, other, 2);
        int some = made(x, SOME, 1, a, a);
        int strict = made(x, SOME, 3, a, a);
        same("like parts, but one does not hold", x.compare(some, strict), 1);
        pairIs(x, 0, some, strict, 3);
        int same = made(x, SOME, 2, alike, a);
        same("the need is no part of it", x.compare(some, same), 0);
        int lift = lifted(x, a, 2.0);
        int higher = lifted(x, alike, 3.0);
        same("like parts, but other values", x.compare(lift, higher), 1);
        pairIs(x, 0, lift, higher, 4);
        same("norms of the same value", x.compare(x.norm(16), x.norm(17)), 0);
        same("compare, unknown", x.compare(a, x.about(0)), UNKNOWN);
        same("compare, unknown", x.compare(x.about(0), a), UNKNOWN);
        same("compare, below 0", x.compare(-1, a), UNKNOWN);
        same("refusals change nothing", x.about(3), 0);
    }

    private void comparePairsOnce() {
        TracedSums x = new TracedSums();
        int a = give(x, 1.0);
        int b = give(x, 2.0);
        int ab = made(x, ALL, 0, a, b);
        int ba = made(x, ALL, 0, b, a);
        same("parts in another order", x.compare(ab, ba), 2);
        pairIs(x, 0, a, b, 4);
        pairIs(x, 1, b, a, 4);
        int norm = x.norm(1);
        int first = made(x, ALL, 0, norm, ab, a, ab, b);
        int second = made(x, ALL, 0, a, ba, b, ba, b);
        same("each pair once, at its first place", x.compare(first, second), 3);
        pairIs(x, 0, norm, a, 1);
        pairIs(x, 1, a, b, 4);
        pairIs(x, 2, b, a, 4);
        same("like nodes with like values, but other parts", x.compare(made(x, TIMES, 0, ab), made(x, TIMES, 0, ba)), 2);
        int left = a;
        int right = b;
        for (int i = 0; i < 25; i++) {
            left = made(x, ALL, 0, left, left, left);
            right = made(x, ALL, 0, right, right, right);
        }
        same("deep nodes part at one pair", x.compare(left, right), 1);
        pairIs(x, 0, a, b, 4);
    }

    // Promise 19
    private void parts() {
        TracedSums x = new TracedSums();
        same("parts, no compare()", x.parts(0, 0), UNKNOWN);
        int a = give(x, 1.0);
        int b = give(x, 2.0);
        x.compare(a, b);
        same("parts, unknown", x.parts(1, 0), UNKNOWN);
        same("parts, below 0", x.parts(-1, 0), UNKNOWN);
        same("parts, unknown before outside", x.parts(1, 3), UNKNOWN);
        same("parts, outside", x.parts(0, 3), OUTSIDE);
        same("parts, outside below", x.parts(0, -1), OUTSIDE);
        x.holds(a, false);
        pairIs(x, 0, a, b, 4);
        x.compare(a, 99);
        pairIs(x, 0, a, b, 4);
        x.compare(b, a);
        pairIs(x, 0, b, a, 3);
        x.compare(a, a);
        same("parts, of the latest", x.parts(0, 0), UNKNOWN);
    }

    // Promise 20
    private void about() {
        TracedSums x = new TracedSums();
        int a = give(x, 1.0);
        int b = give(x, 2.0);
        int all = made(x, ALL, 0, a, b);
        x.explain(all);
        x.compare(a, b);
        same("nodes", x.about(0), 3);
        same("lines", x.about(1), 3);
        same("more", x.about(2), 0);
        same("pairs", x.about(3), 1);
        same("about 4", x.about(4), OUTSIDE);
        same("about -1", x.about(-1), OUTSIDE);
    }

    // Promise 21
    private void clear() {
        TracedSums x = new TracedSums();
        same("clear nothing", x.clear(), 0);
        int a = give(x, 1.0);
        int b = give(x, 2.0);
        int deep = made(x, ALL, 0, a, b);
        for (int i = 0; i < 6; i++) {
            deep = made(x, ALL, 0, deep, deep, deep);
        }
        x.explain(deep);
        x.compare(a, b);
        x.language(1);
        same("clear", x.clear(), 9);
        for (int what = 0; what <= 3; what++) {
            same("about(" + what + ") after clear", x.about(what), 0);
        }
        valueThrows(x, 0, NO_INDEX);
        same("line after clear", x.line(0, 0), UNKNOWN);
        same("parts after clear", x.parts(0, 0), UNKNOWN);
        same("language after clear", x.language(0), 0);
        same("numbers from 0 on", giveFailing(x, 3.0), 0);
        doesNotHold("the new node", x, 0);
    }

    private void full() {
        TracedSums x = new TracedSums();
        for (int i = 0; i < 60; i++) {
            same("a number", give(x, i), i);
        }
        same("given, full", give(x, 1.0), FULL);
        same("given, outside before full", x.given(-1L, true), OUTSIDE);
        same("node, full", x.node(ALL, 0), FULL);
        same("node, outside before full", x.node(0, 0), OUTSIDE);
        same("SOME, outside before full", x.node(SOME, 0), OUTSIDE);
        same("lift, full", lifted(x, 0, 1.0), FULL);
        same("lift, unknown before full", lifted(x, 60, 1.0), UNKNOWN);
        same("lift, outside before full", x.lift(0, -1L), OUTSIDE);
        same("norm, full", x.norm(1), FULL);
        same("norm, outside before full", x.norm(-1), OUTSIDE);
        same("nodes", x.about(0), 60);
        valueIs("the last", x, 59, 59.0);
    }
}
