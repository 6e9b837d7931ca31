import java.io.IOException;

/** The boundaries of LIKE and COMPARED: term 3, and the promises 18 to 20 that say more of them. */
public final class ComparisonBoundariesTest extends Boundaries {
    private static final int BY_SORT = 1, BY_COUNT = 2, BY_HOLDING = 3, BY_VALUE = 4;

    private ComparisonBoundariesTest() throws IOException {
        super("ComparisonBoundariesTest");
    }

    public static void main(String[] args) throws IOException {
        ComparisonBoundariesTest test = new ComparisonBoundariesTest();
        test.like();
        test.compared();
        test.asking();
        test.checks.end();
    }

    private void like() {
        term(3, "Two NODES are LIKE, if they have the same SORT", this::sameSort);
        term(3, "both HOLD or both do not", this::bothHold);
        term(3, "their VALUES have the same bits", this::sameBits);
        term(3, "they have as many PARTS", this::asManyParts);
        term(3, "and these are LIKE, one by one.", this::likeParts);
        term(3, "Two NODES are LIKE", this::likeWhateverElse);
    }

    private void compared() {
        term(3, "if they are not LIKE, and have the same SORT, and as many PARTS, some of which are not LIKE, then their PARTS, "
            + "one by one, in order, are COMPARED", this::partsAreCompared);
        term(3, "else, if they are not LIKE, they PART there", this::partThere);
        term(3, "a pair of NODES counts once, at the first place where it comes", this::pairsOnce);
        term(3, "their PARTS, one by one, in order, are COMPARED", this::deepAndWide);
        term(3, "their PARTS, one by one, in order, are COMPARED", this::deepestFirst);
        term(3, "a pair of NODES counts once, at the first place where it comes", this::hundredsOfPairs);
    }

    private void asking() {
        promise(18, "Two NODES are COMPARED: at how many pairs they PART.", this::howManyPairs);
        promise(18, "Two NODES are COMPARED", this::numbersOfPairs);
        promise(19, "1 SORT, 2 how many PARTS, 3 HOLDS, 4 VALUE: the first that was another one.", this::firstThatWasAnother);
        promise(19, "Of pair k of the latest compare()", this::latestCompare);
        promise(19, "that was another one", this::asItWas);
        promise(20, "3 pairs of the latest compare().", this::howManyOfTheLatest);
    }

    private void likeAre(String what, TracedSums x, int a, int b) {
        same(what, x.compare(a, b), 0);
        same(what + ", no pair", x.parts(0, 0), UNKNOWN);
        same(what + ", the other way", x.compare(b, a), 0);
    }

    private void partOnce(String what, TracedSums x, int a, int b, int why) {
        pairsAre(what, x, a, b, a, b, why);
        pairsAre(what + ", the other way", x, b, a, b, a, why);
    }

    /** Three numbers for each pair that is due: the first NODE, the second one, why. */
    private void pairsAre(String what, TracedSums x, int a, int b, int... due) {
        int count = due.length / 3;
        same(what + ": how many pairs", x.compare(a, b), count);
        for (int k = 0; k < count; k++) {
            pairIs(x, k, due[3 * k], due[3 * k + 1], due[3 * k + 2]);
        }
        same(what + ": no more", x.parts(count, 0), UNKNOWN);
    }

    private void sameSort() {
        TracedSums x = new TracedSums();
        int given = give(x, 0.0);
        int all = x.node(ALL, 0);
        int norm = x.norm(0);
        partOnce("GIVEN and ALL of 0.0", x, given, all, BY_SORT);
        partOnce("GIVEN and NORM of 0.0", x, given, norm, BY_SORT);
        partOnce("SOME and BEST without PARTS", x, x.node(SOME, 1), x.node(BEST, 0), BY_SORT);
        partOnce("ALL and TIMES of one", x, made(x, ALL, 0, given), made(x, TIMES, 0, given), BY_SORT);
        likeAre("two ALL without PARTS", x, all, x.node(ALL, 0));
        likeAre("a NODE and itself", x, given, given);
    }

    private void bothHold() {
        TracedSums x = new TracedSums();
        int zero = give(x, 0.0);
        int no = giveFailing(x, 0.0);
        int otherNo = giveFailing(x, 5.0);
        partOnce("0.0, and what does not HOLD", x, zero, no, BY_HOLDING);
        likeAre("both do not, whatever was told", x, no, otherNo);
        x.holds(otherNo, true);
        partOnce("once it HOLDS", x, no, otherNo, BY_HOLDING);
        x.holds(no, true);
        likeAre("once 0.0 HOLDS too", x, zero, no);
        partOnce("SOME of the same PARTS, of which one lacks some", x, made(x, SOME, 1, zero), made(x, SOME, 2, zero), BY_HOLDING);
    }

    private void sameBits() {
        TracedSums x = new TracedSums();
        int one = give(x, 1.0);
        int other = give(x, 1.0);
        int next = give(x, Double.longBitsToDouble(bits(1.0) + 1L));
        int zero = give(x, 0.0);
        int minusZero = give(x, -0.0);
        int infinite = give(x, INFINITY);
        int below = give(x, -INFINITY);
        int least = give(x, Double.MIN_VALUE);
        likeAre("the same", x, one, other);
        likeAre("-0.0 and -0.0", x, minusZero, give(x, -0.0));
        likeAre("infinite ones", x, infinite, give(x, INFINITY));
        partOnce("another last bit", x, one, next, BY_VALUE);
        partOnce("0.0 and -0.0", x, zero, minusZero, BY_VALUE);
        partOnce("infinite and -infinite", x, infinite, below, BY_VALUE);
        partOnce("0.0 and the least double", x, zero, least, BY_VALUE);
        partOnce("LIFTS to 0.0 and -0.0", x, lifted(x, one, 0.0), lifted(x, one, -0.0), BY_VALUE);
    }

    private void asManyParts() {
        TracedSums x = new TracedSums();
        int zero = give(x, 0.0);
        int none = x.node(ALL, 0);
        int one = made(x, ALL, 0, zero);
        int five = made(x, ALL, 0, zero, zero, zero, zero, zero);
        int six = made(x, ALL, 0, zero, zero, zero, zero, zero, zero);
        partOnce("none and one", x, none, one, BY_COUNT);
        partOnce("five and six", x, five, six, BY_COUNT);
        x.part(five, zero);
        likeAre("six and six", x, five, six);
    }

    private void likeParts() {
        TracedSums x = new TracedSums();
        int a = give(x, 1.0);
        int alike = give(x, 1.0);
        int b = give(x, 2.0);
        likeAre("of LIKE PARTS", x, made(x, ALL, 0, a, b, alike), made(x, ALL, 0, alike, b, a));
        int ab = made(x, ALL, 0, a, b);
        int ba = made(x, ALL, 0, b, a);
        pairsAre("the same VALUE of the same PARTS in another order", x, ab, ba, a, b, BY_VALUE, b, a, BY_VALUE);
        int upper = made(x, TIMES, 0, b, ab);
        pairsAre("not LIKE in PARTS of PARTS alone", x, upper, made(x, TIMES, 0, b, ba), a, b, BY_VALUE, b, a, BY_VALUE);
        likeAre("LIKE in PARTS of PARTS", x, upper, made(x, TIMES, 0, b, made(x, ALL, 0, alike, b)));
        int first = made(x, TIMES, 0, a, a, a, a, a, a);
        int sixth = made(x, TIMES, 0, a, a, a, a, a, b);
        pairsAre("not LIKE in the sixth alone", x, first, sixth, a, b, BY_VALUE);
    }

    private void likeWhateverElse() {
        TracedSums x = new TracedSums();
        int one = give(x, 1.0);
        int zero = give(x, 0.0);
        likeAre("whatever the NEED", x, made(x, SOME, 1, one, one), made(x, SOME, 2, one, one));
        likeAre("whatever the FACTOR", x, lifted(x, zero, 2.0), lifted(x, zero, 3.0));
        likeAre("whatever the LENGTH", x, x.norm(16), x.norm(17));
        partOnce("NORMS of other VALUES", x, x.norm(17), x.norm(18), BY_VALUE);
        int best = made(x, BEST, 0, one, one);
        likeAre("whatever the number", x, best, made(x, BEST, 0, give(x, 1.0), one));
    }

    private void partsAreCompared() {
        TracedSums x = new TracedSums();
        int a = give(x, 1.0);
        int b = give(x, 2.0);
        int no = giveFailing(x, 3.0);
        int norm = x.norm(4);
        int left = made(x, ALL, 0, a, b, norm);
        int right = made(x, ALL, 0, b, b, no);
        pairsAre("in order, and not where they are LIKE", x, left, right, a, b, BY_VALUE, norm, no, BY_SORT);
        pairsAre("though one does not HOLD, its PARTS say why", x, made(x, TIMES, 0, a), made(x, TIMES, 0, no), a, no, BY_HOLDING);
        pairsAre("though their VALUES are others, their PARTS say why", x, lifted(x, a, 3.0), lifted(x, b, 5.0), a, b, BY_VALUE);
        int deepLeft = made(x, BEST, 0, left, norm);
        int deepRight = made(x, BEST, 0, right, a);
        pairsAre("PARTS of PARTS before the next PART", x, deepLeft, deepRight,
            a, b, BY_VALUE, norm, no, BY_SORT, norm, a, BY_SORT);
        int fewer = made(x, ALL, 0, a, b);
        pairsAre("other counts end it, though PARTS are not LIKE", x, fewer, right, fewer, right, BY_COUNT);
        int times = made(x, TIMES, 0, b, b, no);
        pairsAre("another SORT ends it, though PARTS are not LIKE", x, left, times, left, times, BY_SORT);
    }

    private void partThere() {
        TracedSums x = new TracedSums();
        int a = give(x, 1.0);
        int b = give(x, 2.0);
        partOnce("GIVEN, that have no PARTS", x, a, b, BY_VALUE);
        int two = lifted(x, a, 2.0);
        int three = lifted(x, a, 3.0);
        partOnce("LIKE PARTS, another VALUE", x, two, three, BY_VALUE);
        int odd = lifted(x, give(x, INFINITY), 0.0);
        int even = lifted(x, give(x, INFINITY), 1.0);
        partOnce("LIKE PARTS, no number", x, odd, even, BY_HOLDING);
        pairsAre("as PARTS", x, made(x, ALL, 0, two, odd), made(x, ALL, 0, three, even),
            two, three, BY_VALUE, odd, even, BY_HOLDING);
        likeAre("they do not, if they are LIKE", x, two, lifted(x, a, 2.0));
    }

    private void pairsOnce() {
        TracedSums x = new TracedSums();
        int a = give(x, 1.0);
        int b = give(x, 2.0);
        int c = give(x, 3.0);
        int aab = made(x, ALL, 0, a, a, b, c);
        int bbc = made(x, ALL, 0, b, b, c, a);
        pairsAre("one PART twice", x, aab, bbc, a, b, BY_VALUE, b, c, BY_VALUE, c, a, BY_VALUE);
        pairsAre("the other way round it is another pair", x, made(x, ALL, 0, a, b, a), made(x, ALL, 0, b, a, b),
            a, b, BY_VALUE, b, a, BY_VALUE);
        int deep = made(x, TIMES, 0, made(x, ALL, 0, c, a), a, b);
        int other = made(x, TIMES, 0, made(x, ALL, 0, a, b), b, c);
        pairsAre("at the first place, though deeper", x, deep, other, c, a, BY_VALUE, a, b, BY_VALUE, b, c, BY_VALUE);
        int left = made(x, BEST, 0, aab, aab, c);
        int right = made(x, BEST, 0, bbc, bbc, b);
        pairsAre("one with PARTS twice", x, left, right, a, b, BY_VALUE, b, c, BY_VALUE, c, a, BY_VALUE, c, b, BY_VALUE);
    }

    private void deepAndWide() {
        TracedSums x = new TracedSums();
        int left = give(x, 1.0);
        int right = give(x, 2.0);
        for (int i = 0; i < 29; i++) {
            left = made(x, TIMES, 0, left, left, left, left);
            right = made(x, TIMES, 0, right, right, right, right);
        }
        same("sixty NODES", x.about(0), 60);
        pairsAre("as deep as may be", x, left, right, 0, 1, BY_VALUE);
        TracedSums y = new TracedSums();
        for (int i = 0; i < 36; i++) {
            give(y, i);
        }
        int[] six = new int[6];
        int[] turned = new int[6];
        for (int i = 0; i < 6; i++) {
            int from = 6 * i;
            six[i] = made(y, ALL, 0, from, from + 1, from + 2, from + 3, from + 4, from + 5);
            turned[i] = made(y, ALL, 0, 35 - from, 34 - from, 33 - from, 32 - from, 31 - from, 30 - from);
        }
        int[] due = new int[108];
        for (int i = 0; i < 36; i++) {
            due[3 * i] = i;
            due[3 * i + 1] = 35 - i;
            due[3 * i + 2] = BY_VALUE;
        }
        pairsAre("as wide as may be", y, made(y, BEST, 0, six), made(y, BEST, 0, turned), due);
    }

    /** At each DEPTH five PARTS have to wait until what is below the first one has been COMPARED. */
    private void deepestFirst() {
        TracedSums x = new TracedSums();
        int a = give(x, 1.0);
        int b = give(x, 2.0);
        int last = made(x, ALL, 0, a, a, a, a, a, a);
        int lastButOne = last;
        for (int number = 3; number < 60; number++) {
            int other = number % 2 == 0 ? a : b;
            lastButOne = last;
            last = made(x, ALL, 0, last, other, other, other, other, other);
        }
        pairsAre("one after the other", x, last, lastButOne, 2, a, BY_SORT, b, a, BY_VALUE, a, b, BY_VALUE);
    }

    /** So many pairs that the Model has to say which are due; an object is asked for few of them, to stay below 512 calls. */
    private void hundredsOfPairs() {
        Model model = new Model();
        ofMixedParts(model::given, model::node, model::part);
        int count = model.compare(59, 58);
        same("hundreds of pairs", count > 500 ? 1 : 0, 1);
        for (int from = 0; from < count; from += 25) {
            TracedSums x = new TracedSums();
            ofMixedParts(x::given, x::node, x::part);
            same("how many pairs", x.compare(59, 58), count);
            for (int k = from; k < from + 25 && k < count; k++) {
                pairIs(x, k, model.parts(k, 0), model.parts(k, 1), model.parts(k, 2));
            }
        }
    }

    private interface Giving {
        int given(long bits, boolean holds);
    }

    private interface Making {
        int call(int one, int other);
    }

    /** Sixty NODES: some GIVEN, each of another VALUE, and above them ALL NODES whose PARTS are drawn from all before. */
    private static void ofMixedParts(Giving giving, Making making, Making part) {
        int leaves = 18;
        for (int i = 0; i < leaves; i++) {
            giving.given(bits(i), true);
        }
        int drawn = 3;
        for (int node = leaves; node < 60; node++) {
            making.call(ALL, 0);
            for (int i = 0; i < 6; i++) {
                drawn = (drawn * 1103 + 12345) % 1000003;
                part.call(node, Math.max(0, node - 1 - drawn % 20));
            }
        }
    }

    private void howManyPairs() {
        TracedSums x = new TracedSums();
        int a = give(x, 1.0);
        int b = give(x, 2.0);
        same("of one NODE", x.compare(a, a), 0);
        same("of two", x.compare(a, b), 1);
        int six = made(x, ALL, 0, a, a, a, b, b, b);
        same("six PARTS", x.compare(six, made(x, ALL, 0, b, b, b, a, a, a)), 2);
        same("of one NODE with PARTS", x.compare(six, six), 0);
        fillTo(x, 59);
        int last = give(x, 3.0);
        same("the first NODE and the last", x.compare(0, last), 1);
        pairIs(x, 0, 0, 59, BY_VALUE);
        same("the last NODE and the first", x.compare(last, 0), 1);
        pairIs(x, 0, 59, 0, BY_VALUE);
        same("the last NODE and itself", x.compare(last, last), 0);
    }

    private void numbersOfPairs() {
        TracedSums x = new TracedSums();
        for (int i = 0; i < 56; i++) {
            give(x, i);
        }
        int left = made(x, ALL, 0, 0, 32, 1, 55, 23);
        int right = made(x, ALL, 0, 1, 1, 33, 23, 55);
        pairsAre("numbers that are the same but for 32", x, left, right, 0, 1, BY_VALUE, 32, 1, BY_VALUE, 1, 33, BY_VALUE,
            55, 23, BY_VALUE, 23, 55, BY_VALUE);
        int low = made(x, TIMES, 0, 2, 2, 34);
        int high = made(x, TIMES, 0, 3, 35, 3);
        pairsAre("second ones that are the same but for 32", x, low, high, 2, 3, BY_VALUE, 2, 35, BY_VALUE, 34, 3, BY_VALUE);
    }

    private void firstThatWasAnother() {
        TracedSums x = new TracedSums();
        int one = give(x, 1.0);
        int two = give(x, 2.0);
        int no = giveFailing(x, 3.0);
        int sum = made(x, ALL, 0, one, two);
        int failing = made(x, TIMES, 0, no);
        partOnce("SORT, PARTS, HOLDS and VALUE", x, sum, failing, BY_SORT);
        partOnce("PARTS, HOLDS and VALUE", x, sum, made(x, ALL, 0, no), BY_COUNT);
        partOnce("PARTS and VALUE", x, sum, made(x, ALL, 0, one), BY_COUNT);
        partOnce("HOLDS and VALUE", x, two, no, BY_HOLDING);
        partOnce("VALUE", x, one, two, BY_VALUE);
        partOnce("SORT and HOLDS", x, no, x.norm(0), BY_SORT);
    }

    private void latestCompare() {
        TracedSums x = new TracedSums();
        int a = give(x, 1.0);
        int b = give(x, 2.0);
        int no = giveFailing(x, 1.0);
        same("no compare()", x.parts(0, 0), UNKNOWN);
        int left = made(x, ALL, 0, a, a);
        int right = made(x, ALL, 0, b, no);
        pairsAre("two pairs", x, left, right, a, b, BY_VALUE, a, no, BY_HOLDING);
        pairsAre("one pair", x, b, a, b, a, BY_VALUE);
        same("no pair of the one before", x.parts(1, 0), UNKNOWN);
        x.compare(a, 7);
        x.compare(-1, a);
        pairIs(x, 0, b, a, BY_VALUE);
        likeAre("none", x, a, a);
        same("no pair of the one before", x.parts(0, 2), UNKNOWN);
        pairsAre("the same again", x, left, right, a, b, BY_VALUE, a, no, BY_HOLDING);
        x.clear();
        same("no pair after clear()", x.parts(0, 0), UNKNOWN);
    }

    private void asItWas() {
        TracedSums x = new TracedSums();
        int a = give(x, 1.0);
        int b = give(x, 2.0);
        int left = made(x, ALL, 0, a);
        int right = made(x, ALL, 0, b);
        pairsAre("then", x, left, right, a, b, BY_VALUE);
        x.holds(a, false);
        x.part(left, b);
        pairIs(x, 0, a, b, BY_VALUE);
        same("as many", x.about(3), 1);
        pairsAre("now", x, left, right, left, right, BY_COUNT);
        x.part(right, b);
        pairsAre("now", x, left, right, a, b, BY_HOLDING);
    }

    private void howManyOfTheLatest() {
        TracedSums x = new TracedSums();
        int a = give(x, 1.0);
        int b = give(x, 2.0);
        same("none at first", x.about(3), 0);
        x.compare(a, b);
        same("one", x.about(3), 1);
        x.compare(a, 2);
        same("after a refused compare()", x.about(3), 1);
        x.compare(made(x, ALL, 0, a, b), made(x, ALL, 0, b, a));
        same("two", x.about(3), 2);
        x.compare(a, a);
        same("none", x.about(3), 0);
    }
}
