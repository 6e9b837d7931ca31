import java.io.IOException;

/** The boundaries of NODES, their PARTS and VALUES: term 1, and the promises 1 to 10, 13 and 21 that say more of them. */
public final class NodeBoundariesTest extends Boundaries {
    private static final int[] SORTS_WITH_PARTS = {ALL, SOME, TIMES, BEST, SHARE};
    private static final long LEAST_NAN = 0x7FF0000000000001L, GREATEST_NAN = Long.MAX_VALUE;
    private static final long NEGATIVE = Long.MIN_VALUE;
    /** The doubles at which something changes: zeros, subnormal and normal ones, infinities. */
    private static final long[] EDGES = {
        0L, 1L, 2L, 0x0008000000000000L, 0x000FFFFFFFFFFFFFL, 0x0010000000000000L, 0x0010000000000001L,
        0x001FFFFFFFFFFFFFL, 0x3FEFFFFFFFFFFFFFL, 0x3FF0000000000000L, 0x3FF0000000000001L, 0x432FFFFFFFFFFFFFL,
        0x4330000000000001L, 0x7FE0000000000000L, 0x7FEFFFFFFFFFFFFFL, 0x7FF0000000000000L
    };
    private static final long[] NO_NUMBERS = {
        LEAST_NAN, 0x7FF7FFFFFFFFFFFFL, 0x7FF8000000000000L, GREATEST_NAN, NEGATIVE | LEAST_NAN, 0xFFF8000000000000L, -1L
    };

    private NodeBoundariesTest() throws IOException {
        super("NodeBoundariesTest");
    }

    public static void main(String[] args) throws IOException {
        NodeBoundariesTest test = new NodeBoundariesTest();
        test.nodes();
        test.givenAndSums();
        test.productsAndBest();
        test.liftNormAndShare();
        test.noNumber();
        test.making();
        test.asking();
        test.checks.end();
    }

    private void nodes() {
        term(1, "NODES, 60 at most", this::sixtyNodes);
        term(1, "numbered from 0 on as they come", this::numbers);
        term(1, "have a SORT and PARTS, 6 at most, in order", this::sixParts);
        term(1, "NODES that came before it", this::partsBefore);
        term(1, "(one may be there twice)", this::partTwice);
        term(1, "its VALUE is a double, 0.0 if it does not HOLD", this::valueOfWhatDoesNotHold);
    }

    private void givenAndSums() {
        term(1, "0 GIVEN: HOLDS and VALUE as told; no PARTS.", this::givenAsTold);
        term(1, "1 ALL: HOLDS, if all PARTS do", () -> holdsIfAllDo(ALL));
        term(1, "VALUE: from 0.0 on, each PART's added, in order.", this::sumOfAll);
        term(1, "2 SOME, with a NEED (1 .. 6)", this::need);
        term(1, "HOLDS, if so many PARTS or more do", this::holdsIfSoManyDo);
        term(1, "VALUE: likewise of the PARTS that HOLD.", this::sumOfSome);
    }

    private void productsAndBest() {
        term(1, "3 TIMES: HOLDS, if all PARTS do", () -> holdsIfAllDo(TIMES));
        term(1, "VALUE: from 1.0 on, times each PART's, in order.", this::product);
        term(1, "4 BEST: HOLDS, if some PART does", this::holdsIfSomeDoes);
        term(1, "the WINNER is the first of those that HOLD", this::winnerIsFirstThatHolds);
        term(1, "until a later one that HOLDS has a greater VALUE than it: then that", this::winnerIsGreatest);
        term(1, "VALUE: the WINNER's.", this::valueOfWinner);
    }

    private void liftNormAndShare() {
        term(1, "5 LIFT, with a FACTOR: one PART, told with it", this::onePartOfLift);
        term(1, "HOLDS, if that does; VALUE: that of the PART times FACTOR.", this::valueOfLift);
        term(1, "6 NORM of a LENGTH m (0 and more): no PARTS, HOLDS", this::lengths);
        term(1, "PACKED: m, if it is below 8", this::packedBelow8);
        term(1, "else, m having b bits, 8 (b - 3) and what m has of its three bits behind the highest one", this::packedFrom8);
        term(1, "UNPACKED of x: x, if it is below 8", this::unpackedBelow8);
        term(1, "else (8 + x modulo 8) times 2 to the (x / 8 - 1)", this::unpackedFrom8);
        term(1, "VALUE: UNPACKED of PACKED.", this::valueOfNorm);
        term(1, "7 SHARE: HOLDS, if it has two PARTS and both do", this::holdsIfBothDo);
        term(1, "VALUE: the first one's by the second one's.", this::valueOfShare);
    }

    private void noNumber() {
        term(1, "A NODE whose VALUE would be no number does not HOLD.", this::sumsThatAreNoNumber);
        term(1, "A NODE whose VALUE would be no number does not HOLD.", this::productsThatAreNoNumber);
        term(1, "A NODE whose VALUE would be no number does not HOLD.", this::liftsAndSharesThatAreNoNumber);
        term(1, "A NODE whose VALUE would be no number does not HOLD.", this::noNumberComesAndGoes);
    }

    private void making() {
        sentence("## What it is", "An object is used for at most 512 calls after it has been made", this::lastCall);
        promise(1, "No NODES, no LINES.", this::nothingAtFirst);
        promise(2, "VALUE by the bits of a double", this::bitsOfGiven);
        promise(2, "OUTSIDE: no number (NaN).", this::noNumberGiven);
        promise(3, "of SORT 1, 2, 3, 4 or 7 without PARTS", this::sorts);
        promise(3, "(need counts for SOME alone)", this::needCountsForSomeAlone);
        promise(4, "FACTOR by the bits of a double", this::bitsOfFactor);
        promise(4, "OUTSIDE: no number.", this::noNumberAsFactor);
        promise(4, "UNKNOWN", this::unknownPartOfLift);
        promise(6, "A PART more for a NODE: how many.", this::howManyParts);
        promise(6, "OUTSIDE: the PART does not come before the NODE", this::partNotBefore);
        promise(7, "Whether a GIVEN NODE HOLDS becomes another thing (or the same): 1 if it did.", this::whatHolds);
    }

    private void asking() {
        promise(8, "The VALUE of a NODE.", this::valueOfLastNode);
        promise(9, "The FACTOR of a LIFT.", this::factorOfLift);
        promise(10, "LENGTH (what = 0), PACKED (1), UNPACKED (any other number).", this::packedWhat);
        promise(13, "would have the same bits, if its own PARTS were taken from the last one on", this::turnedBits);
        promise(13, "its own PARTS", this::turnedOwnParts);
        promise(13, "of a NODE of SORT 1, 2, 3", this::turnedSorts);
        promise(21, "All is as at the beginning", this::asAtTheBeginning);
        promise(21, "how many NODES there were.", this::howManyThereWere);
    }

    private static TracedSums withGiven(double... values) {
        TracedSums x = new TracedSums();
        for (double value : values) {
            give(x, value);
        }
        return x;
    }

    /** A NODE of this SORT with all that has been made before as PARTS, in order. */
    private static int ofAll(TracedSums x, int sort, int need) {
        int count = x.about(0);
        int node = x.node(sort, need);
        for (int part = 0; part < count; part++) {
            x.part(node, part);
        }
        return node;
    }

    private static int makeAny(TracedSums x, int kind) {
        switch (kind) {
            case GIVEN:
                return give(x, 1.0);
            case LIFT:
                return lifted(x, 0, 2.0);
            case NORM:
                return x.norm(5);
            default:
                return x.node(kind, 6);
        }
    }

    private void sixtyNodes() {
        for (int kind = GIVEN; kind <= SHARE; kind++) {
            TracedSums x = new TracedSums();
            fillTo(x, 59);
            same("the 60th NODE, of SORT " + kind, makeAny(x, kind), 59);
            same("how many NODES", x.about(0), 60);
            same("the SORT of the 60th", x.told(59, 0), kind);
            same("the 61st, of SORT " + kind, makeAny(x, kind), FULL);
            same("still as many", x.about(0), 60);
            same("no 61st", x.told(60, 0), UNKNOWN);
        }
    }

    private void numbers() {
        TracedSums x = new TracedSums();
        same("the first", give(x, 1.0), 0);
        same("no number for what is refused", x.norm(-1), OUTSIDE);
        for (int kind = GIVEN; kind <= SHARE; kind++) {
            same("the next", makeAny(x, kind), kind + 1);
        }
    }

    private void sixParts() {
        for (int sort : SORTS_WITH_PARTS) {
            TracedSums x = withGiven(1.0, 2.0, 3.0, 4.0, 5.0, 6.0, 7.0);
            int node = x.node(sort, 1);
            for (int i = 0; i < 6; i++) {
                same("PART " + i + " of SORT " + sort, x.part(node, 5 - i), i + 1);
            }
            same("a seventh PART of SORT " + sort, x.part(node, 6), FULL);
            same("how many", x.told(node, 2), 6);
            for (int i = 0; i < 6; i++) {
                same("in order, PART " + i, x.told(node, 10 + i), 5 - i);
            }
        }
    }

    private void partsBefore() {
        TracedSums x = withGiven(1.0, 2.0);
        int node = x.node(ALL, 0);
        int next = x.node(ALL, 0);
        same("the first NODE", x.part(node, 0), 1);
        same("the NODE just before", x.part(node, node - 1), 2);
        same("the NODE itself", x.part(node, node), OUTSIDE);
        same("the NODE just behind", x.part(node, next), OUTSIDE);
        fillTo(x, 59);
        int last = x.node(ALL, 0);
        same("the last NODE but one in the last", x.part(last, 58), 1);
        same("the last NODE in itself", x.part(last, 59), OUTSIDE);
        TracedSums first = new TracedSums();
        same("NODE 0 has none before it", first.part(first.node(ALL, 0), 0), OUTSIDE);
    }

    private void partTwice() {
        TracedSums x = withGiven(2.0);
        int sum = made(x, ALL, 0, 0, 0);
        same("PART 0", x.told(sum, 10), 0);
        same("PART 1", x.told(sum, 11), 0);
        valueIs("one twice", x, sum, 4.0);
        valueIs("one six times", x, made(x, TIMES, 0, 0, 0, 0, 0, 0, 0), 64.0);
        valueIs("one twice counts as two for SOME", x, made(x, SOME, 2, 0, 0), 4.0);
        valueIs("one by itself", x, made(x, SHARE, 0, 0, 0), 1.0);
    }

    private void valueOfWhatDoesNotHold() {
        TracedSums x = new TracedSums();
        int no = giveFailing(x, -3.0);
        int minusZero = giveFailing(x, -0.0);
        doesNotHold("GIVEN of -3.0", x, no);
        doesNotHold("GIVEN of -0.0", x, minusZero);
        doesNotHold("GIVEN of an infinite one", x, giveFailing(x, -INFINITY));
        doesNotHold("ALL", x, made(x, ALL, 0, no));
        doesNotHold("SOME", x, made(x, SOME, 1, no));
        doesNotHold("SOME that lacks one", x, made(x, SOME, 2, no, give(x, 8.0)));
        doesNotHold("TIMES", x, made(x, TIMES, 0, no));
        doesNotHold("TIMES of one that HOLDS below 0.0", x, made(x, TIMES, 0, give(x, -1.0), no));
        doesNotHold("BEST", x, made(x, BEST, 0, no));
        doesNotHold("LIFT by -1.0", x, lifted(x, no, -1.0));
        doesNotHold("SHARE of one", x, made(x, SHARE, 0, give(x, 9.0)));
        doesNotHold("SHARE", x, made(x, SHARE, 0, no, give(x, -9.0)));
    }

    private void givenAsTold() {
        TracedSums x = new TracedSums();
        valueIs("what HOLDS", x, give(x, -2.5), -2.5);
        doesNotHold("what does not", x, giveFailing(x, -2.5));
        same("no PARTS", x.told(0, 2), 0);
        same("no PART 0", x.told(0, 10), NONE);
        same("none can come", x.part(1, 0), STATE);
    }

    private void holdsIfAllDo(int sort) {
        TracedSums x = withGiven(1.0, 1.0, 1.0, 1.0, 1.0, 1.0);
        int none = x.node(sort, 0);
        same("without PARTS", x.told(none, 1), 1);
        int node = made(x, sort, 0, 0, 1, 2, 3, 4, 5);
        same("with all of six", x.told(node, 1), 1);
        for (int i = 0; i < 6; i++) {
            x.holds(i, false);
            same("without PART " + i, x.told(node, 1), 0);
            x.holds(i, true);
            same("with it again", x.told(node, 1), 1);
        }
        for (int i = 0; i < 6; i++) {
            x.holds(i, false);
        }
        same("with none of six", x.told(node, 1), 0);
    }

    private void sumOfAll() {
        TracedSums x = withGiven(1e16, 1.0, -1e16, 0.1, 0.2, 0.3);
        valueIs("without PARTS", x, x.node(ALL, 0), 0.0);
        valueIs("six in order", x, made(x, ALL, 0, 0, 1, 2, 3, 4, 5), 0.0 + 1e16 + 1.0 - 1e16 + 0.1 + 0.2 + 0.3);
        valueIs("six in another order", x, made(x, ALL, 0, 5, 4, 3, 2, 1, 0), 0.3 + 0.2 + 0.1 - 1e16 + 1.0 + 1e16);
        valueIs("the lost one is lost", x, made(x, ALL, 0, 0, 1, 2), 0.0);
        valueIs("the kept one is kept", x, made(x, ALL, 0, 0, 2, 1), 1.0);
        int minusZero = give(x, -0.0);
        valueIs("-0.0 added to 0.0", x, made(x, ALL, 0, minusZero), 0.0);
        valueIs("-0.0 added twice", x, made(x, ALL, 0, minusZero, minusZero), 0.0);
        int least = give(x, Double.MIN_VALUE);
        valueIs("the least double twice", x, made(x, ALL, 0, least, least), 2 * Double.MIN_VALUE);
        int most = give(x, Double.MAX_VALUE);
        valueIs("what overflows is infinite", x, made(x, ALL, 0, most, most), INFINITY);
    }

    private void need() {
        for (int need = 1; need <= 6; need++) {
            same("NEED " + need, new TracedSums().node(SOME, need), 0);
        }
        int[] wrong = {0, 7, -1, Integer.MIN_VALUE, Integer.MAX_VALUE};
        for (int need : wrong) {
            same("NEED " + need, new TracedSums().node(SOME, need), OUTSIDE);
        }
    }

    private void holdsIfSoManyDo() {
        for (int need = 1; need <= 6; need++) {
            TracedSums x = new TracedSums();
            for (int i = 0; i < 6; i++) {
                giveFailing(x, 1.0);
            }
            int without = x.node(SOME, need);
            doesNotHold("without PARTS", x, without);
            int some = made(x, SOME, need, 0, 1, 2, 3, 4, 5);
            for (int count = 0; count <= 6; count++) {
                same("NEED " + need + ", " + count + " that HOLD", x.told(some, 1), count >= need ? 1 : 0);
                sameBits("its VALUE", x.value(some), count >= need ? count : 0.0);
                if (count < 6) {
                    x.holds(5 - count, true);
                }
            }
        }
    }

    private void sumOfSome() {
        TracedSums x = withGiven(1e16, 1.0, -1e16, -0.0);
        int no = giveFailing(x, 100.0);
        int infinite = giveFailing(x, -INFINITY);
        valueIs("in order", x, made(x, SOME, 1, 0, no, 1, 2), 0.0);
        valueIs("in another order", x, made(x, SOME, 1, 0, 2, no, 1), 1.0);
        valueIs("from 0.0 on", x, made(x, SOME, 1, 3, no), 0.0);
        valueIs("what does not HOLD is not added", x, made(x, SOME, 1, no, infinite, 1), 1.0);
        valueIs("what is more than the NEED is added", x, made(x, SOME, 1, 1, 1, 1, 1, 1, 1), 6.0);
    }

    private void product() {
        TracedSums x = withGiven(0.1, 0.7, 3.0, 1e-200, 1e200, -0.0);
        valueIs("without PARTS", x, x.node(TIMES, 0), 1.0);
        valueIs("in order", x, made(x, TIMES, 0, 0, 1, 2), 0.1 * 0.7 * 3.0);
        valueIs("in another order", x, made(x, TIMES, 0, 2, 1, 0), 3.0 * 0.7 * 0.1);
        valueIs("what underflows stays", x, made(x, TIMES, 0, 3, 3, 4, 4), 0.0);
        valueIs("what does not underflow", x, made(x, TIMES, 0, 3, 4, 3, 4), 1e-200 * 1e200 * 1e-200 * 1e200);
        valueIs("what overflows is infinite", x, made(x, TIMES, 0, 4, 4, 3, 3), INFINITY);
        valueIs("1.0 times -0.0", x, made(x, TIMES, 0, 5), -0.0);
        valueIs("-0.0 times -0.0", x, made(x, TIMES, 0, 5, 5), 0.0);
    }

    private void holdsIfSomeDoes() {
        TracedSums x = new TracedSums();
        for (int i = 0; i < 6; i++) {
            giveFailing(x, -2.0);
        }
        doesNotHold("without PARTS", x, x.node(BEST, 0));
        int best = made(x, BEST, 0, 0, 1, 2, 3, 4, 5);
        doesNotHold("with none of six", x, best);
        for (int i = 0; i < 6; i++) {
            x.holds(i, true);
            valueIs("with PART " + i + " alone", x, best, -2.0);
            x.holds(i, false);
        }
        doesNotHold("with none again", x, best);
    }

    private void winnerIsFirstThatHolds() {
        TracedSums x = withGiven(4.0, 4.0, -INFINITY, -INFINITY, INFINITY, INFINITY, 0.0, -0.0);
        int no = giveFailing(x, 9.0);
        winnerIs("of equals the first", x, 0, made(x, BEST, 0, no, 0, 1));
        winnerIs("of equals the first, by its place", x, 1, made(x, BEST, 0, 1, 0));
        winnerIs("-infinite, behind what does not HOLD", x, 2, made(x, BEST, 0, no, 2, 3, no));
        winnerIs("infinite", x, 5, made(x, BEST, 0, no, 5, 4));
        winnerIs("0.0 before -0.0", x, 6, made(x, BEST, 0, 6, 7));
        winnerIs("-0.0 before 0.0", x, 7, made(x, BEST, 0, 7, 6));
        winnerIs("one six times", x, 0, made(x, BEST, 0, 0, 0, 0, 0, 0, 0));
    }

    private void winnerIs(String what, TracedSums x, int winner, int best) {
        same(what, x.told(best, 3), winner);
        sameBits(what, x.value(best), x.value(winner));
    }

    private void winnerIsGreatest() {
        double two = 2.0;
        double more = Double.longBitsToDouble(bits(two) + 1L);
        TracedSums x = withGiven(1.0, two, more, -5.0, Double.MIN_VALUE, 0.0, -Double.MIN_VALUE, -0.0, INFINITY);
        int no = giveFailing(x, 9.0);
        winnerIs("a later one, greater by one bit", x, 2, made(x, BEST, 0, 1, 2));
        winnerIs("a later one, less by one bit", x, 2, made(x, BEST, 0, 2, 1));
        winnerIs("greater, and greater again", x, 2, made(x, BEST, 0, 3, 0, 1, 2));
        winnerIs("the one in the middle", x, 2, made(x, BEST, 0, 0, 2, 1));
        winnerIs("what does not HOLD is not greater", x, 3, made(x, BEST, 0, 3, no));
        winnerIs("the least one is greater than 0.0", x, 4, made(x, BEST, 0, 5, 4));
        winnerIs("-0.0 is greater than the least one below", x, 7, made(x, BEST, 0, 6, 7));
        winnerIs("infinite is greater, at the sixth place", x, 8, made(x, BEST, 0, 3, 0, 1, 2, no, 8));
    }

    private void valueOfWinner() {
        TracedSums x = withGiven(-0.0, -7.0);
        int no = giveFailing(x, 1.0);
        valueIs("-0.0", x, made(x, BEST, 0, 1, 0), -0.0);
        int best = made(x, BEST, 0, 1, no);
        valueIs("below 0.0", x, best, -7.0);
        x.holds(no, true);
        valueIs("another WINNER", x, best, 1.0);
        x.holds(no, false);
        valueIs("the first again", x, best, -7.0);
        x.holds(1, false);
        doesNotHold("no WINNER", x, best);
        same("no WINNER", x.told(best, 3), NONE);
    }

    private void onePartOfLift() {
        TracedSums x = withGiven(1.0, 2.0);
        int lift = lifted(x, 1, 3.0);
        same("how many PARTS", x.told(lift, 2), 1);
        same("its PART", x.told(lift, 10), 1);
        same("no second one", x.told(lift, 11), NONE);
        same("none can come", x.part(lift, 0), STATE);
        same("still one", x.told(lift, 2), 1);
        int higher = lifted(x, lift, 3.0);
        same("the NODE just before", x.told(higher, 10), lift);
    }

    private void valueOfLift() {
        TracedSums x = withGiven(0.1, 0.0, Double.MIN_VALUE, Double.MAX_VALUE, INFINITY);
        int no = giveFailing(x, 2.0);
        doesNotHold("of what does not HOLD", x, lifted(x, no, 3.0));
        int lift = lifted(x, 0, 3.0);
        valueIs("the product", x, lift, 0.1 * 3.0);
        valueIs("0.0 by -1.0", x, lifted(x, 1, -1.0), -0.0);
        valueIs("by -0.0", x, lifted(x, 0, -0.0), -0.0);
        valueIs("by 0.0", x, lifted(x, 0, 0.0), 0.0);
        valueIs("the least by 0.5", x, lifted(x, 2, 0.5), 0.0);
        valueIs("the greatest by 2.0 is infinite", x, lifted(x, 3, 2.0), INFINITY);
        valueIs("by an infinite FACTOR", x, lifted(x, 0, -INFINITY), -INFINITY);
        valueIs("infinite by -2.0", x, lifted(x, 4, -2.0), -INFINITY);
        x.holds(0, false);
        doesNotHold("no longer", x, lift);
    }

    private void lengths() {
        int[] lengths = {0, 1, Integer.MAX_VALUE};
        TracedSums x = new TracedSums();
        for (int i = 0; i < lengths.length; i++) {
            same("a NORM of " + lengths[i], x.norm(lengths[i]), i);
            same("its LENGTH", x.packed(i, 0), lengths[i]);
            same("it HOLDS", x.told(i, 1), 1);
            same("no PARTS", x.told(i, 2), 0);
            same("none can come", x.part(i, 0), STATE);
        }
        same("LENGTH -1", x.norm(-1), OUTSIDE);
        same("the least LENGTH", x.norm(Integer.MIN_VALUE), OUTSIDE);
        same("no more NODES", x.about(0), lengths.length);
    }

    private void packedBelow8() {
        TracedSums x = new TracedSums();
        for (int m = 0; m < 8; m++) {
            same("PACKED of " + m, x.packed(x.norm(m), 1), m);
        }
        same("PACKED of 8", x.packed(x.norm(8), 1), 8);
        same("PACKED of 16", x.packed(x.norm(16), 1), 16);
        same("PACKED of 17", x.packed(x.norm(17), 1), 16);
    }

    private void packedFrom8() {
        for (int b = 4; b <= 31; b++) {
            TracedSums x = new TracedSums();
            int least = 1 << (b - 1);
            int step = 1 << (b - 4);
            for (int three = 0; three < 8; three++) {
                int from = least + three * step;
                int due = 8 * (b - 3) + three;
                same("PACKED of " + from, x.packed(x.norm(from), 1), due);
                same("PACKED of " + (from + step - 1), x.packed(x.norm(from + step - 1), 1), due);
            }
        }
        TracedSums y = new TracedSums();
        same("PACKED of 15", y.packed(y.norm(15), 1), 15);
        same("PACKED of 31", y.packed(y.norm(31), 1), 23);
        same("PACKED of 32", y.packed(y.norm(32), 1), 24);
        same("PACKED of 1000", y.packed(y.norm(1000), 1), 63);
        same("PACKED of 2^30", y.packed(y.norm(1 << 30), 1), 224);
        same("PACKED of the greatest LENGTH", y.packed(y.norm(Integer.MAX_VALUE), 1), 231);
    }

    private void unpackedBelow8() {
        TracedSums x = new TracedSums();
        for (int m = 0; m <= 8; m++) {
            same("UNPACKED of " + m, x.packed(x.norm(m), 2), m);
        }
    }

    private void unpackedFrom8() {
        for (int b = 4; b <= 31; b++) {
            TracedSums x = new TracedSums();
            int step = 1 << (b - 4);
            for (int three = 0; three < 8; three++) {
                int due = (8 + three) * step;
                same("UNPACKED of " + (8 * (b - 3) + three), x.packed(x.norm(due), 2), due);
                same("the same of the last so PACKED", x.packed(x.norm(due + step - 1), 2), due);
            }
        }
        TracedSums y = new TracedSums();
        same("UNPACKED of 23", y.packed(y.norm(31), 2), 30);
        same("UNPACKED of 63", y.packed(y.norm(1000), 2), 960);
        same("UNPACKED of 231", y.packed(y.norm(Integer.MAX_VALUE), 2), 2013265920);
    }

    private void valueOfNorm() {
        int[] lengths = {0, 7, 8, 15, 16, 17, 31, 32, 1000, Integer.MAX_VALUE};
        double[] due = {0.0, 7.0, 8.0, 15.0, 16.0, 16.0, 30.0, 32.0, 960.0, 2013265920.0};
        TracedSums x = new TracedSums();
        for (int i = 0; i < lengths.length; i++) {
            valueIs("NORM of " + lengths[i], x, x.norm(lengths[i]), due[i]);
        }
    }

    private void holdsIfBothDo() {
        TracedSums x = withGiven(6.0, 3.0);
        int no = giveFailing(x, 3.0);
        int share = x.node(SHARE, 0);
        doesNotHold("without PARTS", x, share);
        x.part(share, 0);
        doesNotHold("with one", x, share);
        x.part(share, 1);
        valueIs("with two", x, share, 2.0);
        int[] rest = {1, no, no, no};
        for (int i = 0; i < rest.length; i++) {
            same("how many", x.part(share, rest[i]), 3 + i);
            doesNotHold("with " + (3 + i) + ", of which two or three HOLD", x, share);
        }
        doesNotHold("the first does not", x, made(x, SHARE, 0, no, 1));
        doesNotHold("the second does not", x, made(x, SHARE, 0, 0, no));
        doesNotHold("both do not", x, made(x, SHARE, 0, no, no));
    }

    private void valueOfShare() {
        TracedSums x = withGiven(1.0, 3.0, 0.0, -0.0, INFINITY, Double.MAX_VALUE, 0.5);
        valueIs("1.0 by 3.0", x, made(x, SHARE, 0, 0, 1), 1.0 / 3.0);
        valueIs("3.0 by 1.0", x, made(x, SHARE, 0, 1, 0), 3.0);
        valueIs("by 0.0", x, made(x, SHARE, 0, 0, 2), INFINITY);
        valueIs("by -0.0", x, made(x, SHARE, 0, 0, 3), -INFINITY);
        valueIs("0.0 by 1.0", x, made(x, SHARE, 0, 2, 0), 0.0);
        valueIs("-0.0 by 1.0", x, made(x, SHARE, 0, 3, 0), -0.0);
        valueIs("by infinite", x, made(x, SHARE, 0, 0, 4), 0.0);
        valueIs("infinite by 0.0", x, made(x, SHARE, 0, 4, 2), INFINITY);
        valueIs("0.0 by infinite", x, made(x, SHARE, 0, 2, 4), 0.0);
        valueIs("what overflows is infinite", x, made(x, SHARE, 0, 5, 6), INFINITY);
    }

    private void sumsThatAreNoNumber() {
        TracedSums x = withGiven(INFINITY, -INFINITY, 1.0, Double.MAX_VALUE, -Double.MAX_VALUE);
        int no = giveFailing(x, 1.0);
        doesNotHold("ALL, infinite and -infinite", x, made(x, ALL, 0, 0, 1));
        doesNotHold("ALL, -infinite and infinite", x, made(x, ALL, 0, 1, 0));
        doesNotHold("ALL, with more behind", x, made(x, ALL, 0, 0, 1, 2, 2));
        doesNotHold("ALL, that overflows first", x, made(x, ALL, 0, 3, 3, 1));
        doesNotHold("ALL, that overflows below first", x, made(x, ALL, 0, 4, 4, 0));
        doesNotHold("SOME, infinite and -infinite", x, made(x, SOME, 1, no, 0, no, 1));
        doesNotHold("SOME, -infinite and infinite", x, made(x, SOME, 2, 1, 2, 0));
        valueIs("ALL, infinite twice", x, made(x, ALL, 0, 0, 0), INFINITY);
        valueIs("ALL, -infinite twice", x, made(x, ALL, 0, 1, 1), -INFINITY);
        valueIs("ALL, infinite and finite", x, made(x, ALL, 0, 0, 4), INFINITY);
        valueIs("ALL, finite and -infinite", x, made(x, ALL, 0, 3, 1), -INFINITY);
        valueIs("ALL, the greatest ones", x, made(x, ALL, 0, 3, 4, 3), Double.MAX_VALUE);
        valueIs("SOME, -infinite twice", x, made(x, SOME, 2, 1, no, 1), -INFINITY);
    }

    private void productsThatAreNoNumber() {
        double[] zeros = {0.0, -0.0};
        double[] infinities = {INFINITY, -INFINITY};
        for (double zero : zeros) {
            for (double infinite : infinities) {
                TracedSums x = withGiven(zero, infinite, 2.0);
                doesNotHold("zero and infinite", x, made(x, TIMES, 0, 0, 1));
                doesNotHold("infinite and zero", x, made(x, TIMES, 0, 1, 0));
                doesNotHold("with more around", x, made(x, TIMES, 0, 2, 1, 2, 0, 2));
                valueIs("infinite twice", x, made(x, TIMES, 0, 1, 1), INFINITY);
                valueIs("zero twice", x, made(x, TIMES, 0, 0, 0), 0.0);
                valueIs("infinite and finite", x, made(x, TIMES, 0, 1, 2), infinite);
            }
        }
        TracedSums y = withGiven(Double.MAX_VALUE, 2.0, 0.0, Double.MIN_VALUE, 0.5, INFINITY);
        doesNotHold("what overflows, and 0.0", y, made(y, TIMES, 0, 0, 1, 2));
        doesNotHold("what underflows, and infinite", y, made(y, TIMES, 0, 3, 4, 5));
        valueIs("0.0, and what would overflow", y, made(y, TIMES, 0, 2, 0, 1), 0.0);
    }

    private void liftsAndSharesThatAreNoNumber() {
        double[] signs = {1.0, -1.0};
        for (double one : signs) {
            for (double other : signs) {
                TracedSums x = withGiven(one * 0.0, other * 0.0, one * INFINITY, other * INFINITY);
                doesNotHold("LIFT of zero by infinite", x, lifted(x, 0, other * INFINITY));
                doesNotHold("LIFT of infinite by zero", x, lifted(x, 2, other * 0.0));
                doesNotHold("SHARE of zeros", x, made(x, SHARE, 0, 0, 1));
                doesNotHold("SHARE of infinite ones", x, made(x, SHARE, 0, 2, 3));
                valueIs("LIFT of zero by zero", x, lifted(x, 0, other * 0.0), one * other * 0.0);
                valueIs("LIFT of infinite by infinite", x, lifted(x, 2, other * INFINITY), one * other * INFINITY);
                valueIs("SHARE of zero and infinite", x, made(x, SHARE, 0, 0, 3), one * other * 0.0);
                valueIs("SHARE of infinite and zero", x, made(x, SHARE, 0, 2, 1), one * other * INFINITY);
            }
        }
    }

    private void noNumberComesAndGoes() {
        TracedSums x = withGiven(INFINITY, -INFINITY, 3.0);
        int some = made(x, SOME, 1, 0, 2);
        int all = made(x, ALL, 0, some);
        int best = made(x, BEST, 0, some, 2);
        valueIs("infinite", x, all, INFINITY);
        x.part(some, 1);
        doesNotHold("no number", x, some);
        doesNotHold("nor what has it as a PART", x, all);
        same("it is its own CAUSE", x.told(all, 4), some);
        valueIs("BEST passes it by", x, best, 3.0);
        x.holds(0, false);
        valueIs("a number again", x, some, -INFINITY);
        valueIs("and above it", x, all, -INFINITY);
        x.holds(0, true);
        doesNotHold("no number again", x, some);
    }

    private void lastCall() {
        TracedSums x = new TracedSums();
        int deep = give(x, 1.0);
        for (int call = 2; call <= 60; call++) {
            deep = lifted(x, deep, 1.0);
        }
        for (int call = 61; call < 511; call += 2) {
            same("explain, call " + call, x.explain(deep), 60);
            same("compare, call " + (call + 1), x.compare(deep, 0), 1);
        }
        same("call 511", x.line(59, 1), 59);
        same("call 512", x.parts(0, 0), deep);
        TracedSums y = new TracedSums();
        for (int call = 1; call <= 511; call++) {
            same("call " + call, call % 61 == 0 ? y.clear() : y.norm(call), call % 61 == 0 ? 60 : call % 61 - 1);
        }
        same("call 512", y.about(0), 511 % 61);
    }

    private void nothingAtFirst() {
        TracedSums x = new TracedSums();
        for (int what = 0; what <= 3; what++) {
            same("about(" + what + ")", x.about(what), 0);
        }
        same("no NODE 0", x.told(0, 0), UNKNOWN);
        same("no LINE 0", x.line(0, 0), UNKNOWN);
        same("no pair 0", x.parts(0, 0), UNKNOWN);
        same("clear()", x.clear(), 0);
        TracedSums other = new TracedSums();
        give(other, 1.0);
        other.language(1);
        same("another object's NODES", x.about(0), 0);
        same("LANGUAGE 0", x.language(0), 0);
    }

    private void bitsOfGiven() {
        for (long edge : EDGES) {
            TracedSums x = new TracedSums();
            same("given " + Long.toHexString(edge), x.given(edge, true), 0);
            same("its bits", bits(x.value(0)), edge);
            same("it HOLDS", x.told(0, 1), 1);
            same("given, negative", x.given(edge | NEGATIVE, true), 1);
            same("its bits", bits(x.value(1)), edge | NEGATIVE);
            same("given, not HOLDING", x.given(edge | NEGATIVE, false), 2);
            same("its bits", bits(x.value(2)), 0L);
            x.holds(2, true);
            same("its bits, once it HOLDS", bits(x.value(2)), edge | NEGATIVE);
        }
        for (int from = 0; from < 0x7FF; from += 50) {
            TracedSums x = new TracedSums();
            for (int exponent = from; exponent < from + 50 && exponent < 0x7FF; exponent++) {
                long due = (long) exponent << 52 | 0xF00DFACE12345L;
                same("the bits of exponent " + exponent, bits(x.value(x.given(due, true))), due);
            }
        }
        for (int bit = 0; bit < 62; bit++) {
            TracedSums x = new TracedSums();
            same("bit " + bit, bits(x.value(x.given(1L << bit, true))), 1L << bit);
        }
    }

    private void noNumberGiven() {
        TracedSums x = new TracedSums();
        for (long bits : NO_NUMBERS) {
            same("given " + Long.toHexString(bits), x.given(bits, true), OUTSIDE);
            same("not HOLDING", x.given(bits, false), OUTSIDE);
        }
        same("no NODES", x.about(0), 0);
        same("the last number", x.given(LEAST_NAN - 1L, true), 0);
        same("the last negative one", x.given((LEAST_NAN - 1L) | NEGATIVE, true), 1);
    }

    private void sorts() {
        for (int sort = -2; sort <= 10; sort++) {
            TracedSums x = new TracedSums();
            boolean due = sort >= ALL && sort <= BEST || sort == SHARE;
            same("SORT " + sort, x.node(sort, 1), due ? 0 : OUTSIDE);
            same("how many NODES", x.about(0), due ? 1 : 0);
            if (due) {
                same("its SORT", x.told(0, 0), sort);
                same("without PARTS", x.told(0, 2), 0);
            }
        }
        same("the least SORT", new TracedSums().node(Integer.MIN_VALUE, 1), OUTSIDE);
        same("the greatest SORT", new TracedSums().node(Integer.MAX_VALUE, 1), OUTSIDE);
    }

    private void needCountsForSomeAlone() {
        int[] needs = {0, 7, -1, Integer.MIN_VALUE, Integer.MAX_VALUE};
        for (int need : needs) {
            TracedSums x = withGiven(4.0, 2.0);
            int no = giveFailing(x, 1.0);
            valueIs("ALL", x, made(x, ALL, need, 0, 1), 6.0);
            valueIs("TIMES", x, made(x, TIMES, need, 0, 1), 8.0);
            valueIs("BEST", x, made(x, BEST, need, no, 1), 2.0);
            valueIs("SHARE", x, made(x, SHARE, need, 0, 1), 2.0);
            same("SOME", x.node(SOME, need), OUTSIDE);
        }
    }

    private void bitsOfFactor() {
        for (long edge : EDGES) {
            TracedSums x = withGiven(1.0);
            same("lift by " + Long.toHexString(edge), x.lift(0, edge), 1);
            same("its FACTOR", bits(x.factor(1)), edge);
            same("its VALUE", bits(x.value(1)), edge);
            same("lift, negative", x.lift(0, edge | NEGATIVE), 2);
            same("its FACTOR", bits(x.factor(2)), edge | NEGATIVE);
            same("its VALUE", bits(x.value(2)), edge | NEGATIVE);
        }
    }

    private void noNumberAsFactor() {
        TracedSums x = withGiven(1.0);
        for (long bits : NO_NUMBERS) {
            same("lift by " + Long.toHexString(bits), x.lift(0, bits), OUTSIDE);
        }
        same("no more NODES", x.about(0), 1);
        same("the last number", x.lift(0, LEAST_NAN - 1L), 1);
        same("the last negative one", x.lift(0, (LEAST_NAN - 1L) | NEGATIVE), 2);
    }

    private void unknownPartOfLift() {
        TracedSums x = new TracedSums();
        same("of itself, the first", lifted(x, 0, 1.0), UNKNOWN);
        give(x, 1.0);
        same("of itself, the second", lifted(x, 1, 1.0), UNKNOWN);
        same("of -1", lifted(x, -1, 1.0), UNKNOWN);
        same("of 60", lifted(x, 60, 1.0), UNKNOWN);
        same("of the least number", lifted(x, Integer.MIN_VALUE, 1.0), UNKNOWN);
        same("of the greatest number", lifted(x, Integer.MAX_VALUE, 1.0), UNKNOWN);
        same("of NODE 0", lifted(x, 0, 1.0), 1);
        same("of the latest NODE", lifted(x, 1, 1.0), 2);
    }

    private void howManyParts() {
        TracedSums x = withGiven(1.0);
        int all = x.node(ALL, 0);
        int other = x.node(ALL, 0);
        for (int count = 1; count <= 6; count++) {
            same("how many", x.part(other, 0), count);
            same("the same", x.told(other, 2), count);
            valueIs("of so many", x, other, count);
        }
        same("another NODE's PARTS", x.told(all, 2), 0);
        same("its first", x.part(all, 0), 1);
    }

    private void partNotBefore() {
        for (int sort : SORTS_WITH_PARTS) {
            TracedSums x = withGiven(1.0, 1.0);
            int node = x.node(sort, 1);
            int next = x.node(sort, 1);
            same("itself", x.part(node, node), OUTSIDE);
            same("the next", x.part(node, next), OUTSIDE);
            same("no PARTS", x.told(node, 2), 0);
            same("the one just before", x.part(node, node - 1), 1);
            same("the one just before that has PARTS", x.part(next, node), 1);
        }
    }

    private void whatHolds() {
        TracedSums x = new TracedSums();
        int a = give(x, -0.0);
        int no = giveFailing(x, 5.0);
        int sum = made(x, TIMES, 0, a, no);
        same("from what it did not to what it does", x.holds(no, true), 0);
        valueIs("its VALUE", x, no, 5.0);
        valueIs("and above it", x, sum, -0.0);
        same("it did, and does", x.holds(no, true), 1);
        valueIs("the same", x, sum, -0.0);
        same("it did, and does not", x.holds(no, false), 1);
        doesNotHold("its VALUE", x, no);
        doesNotHold("and above it", x, sum);
        same("it did not, and does not", x.holds(no, false), 0);
        doesNotHold("the same", x, sum);
        same("another GIVEN", x.told(a, 1), 1);
        same("it did", x.holds(a, false), 1);
        fillTo(x, 59);
        int last = giveFailing(x, 4.0);
        same("the last NODE", x.holds(last, true), 0);
        valueIs("the last NODE", x, last, 4.0);
    }

    private void valueOfLastNode() {
        TracedSums x = withGiven(4.5);
        fillTo(x, 59);
        valueThrows(x, 59, NO_INDEX);
        give(x, -0.0);
        valueIs("NODE 0", x, 0, 4.5);
        valueIs("NODE 59", x, 59, -0.0);
        valueThrows(x, 60, NO_INDEX);
    }

    private void factorOfLift() {
        TracedSums x = new TracedSums();
        int no = giveFailing(x, 4.5);
        sameBits("the FACTOR of a LIFT that does not HOLD", x.factor(lifted(x, no, -0.0)), -0.0);
        int give = give(x, INFINITY);
        int odd = lifted(x, give, 0.0);
        doesNotHold("no number", x, odd);
        sameBits("its FACTOR", x.factor(odd), 0.0);
        fillTo(x, 59);
        sameBits("of the last NODE", x.factor(lifted(x, 58, -INFINITY)), -INFINITY);
    }

    private void packedWhat() {
        TracedSums x = new TracedSums();
        int norm = x.norm(1001);
        same("what = 0", x.packed(norm, 0), 1001);
        same("what = 1", x.packed(norm, 1), 63);
        int[] others = {2, 3, -1, 10, Integer.MAX_VALUE, Integer.MIN_VALUE};
        for (int other : others) {
            same("what = " + other, x.packed(norm, other), 960);
        }
        fillTo(x, 59);
        same("of the last NODE", x.packed(x.norm(9), 0), 9);
    }

    private void turnedBits() {
        TracedSums x = withGiven(0.1, 0.2, 0.3, 1e308, 10.0, -0.0, INFINITY, -INFINITY, Double.MAX_VALUE);
        int no = giveFailing(x, 1.0);
        same("ALL without PARTS", x.turned(x.node(ALL, 0)), 1);
        same("TIMES without PARTS", x.turned(x.node(TIMES, 0)), 1);
        same("SOME without PARTS", x.turned(x.node(SOME, 1)), 1);
        same("ALL of one", x.turned(made(x, ALL, 0, 5)), 1);
        same("ALL of two", x.turned(made(x, ALL, 0, 0, 1)), 1);
        same("ALL of three", x.turned(made(x, ALL, 0, 0, 1, 2)), 0);
        same("ALL that does not HOLD", x.turned(made(x, ALL, 0, 0, 1, 2, no)), 1);
        same("SOME of three", x.turned(made(x, SOME, 3, 0, no, 1, 2)), 0);
        same("SOME that lacks one", x.turned(made(x, SOME, 4, 0, no, 1, 2)), 1);
        same("TIMES of three", x.turned(made(x, TIMES, 0, 0, 1, 2)), 0);
        same("TIMES that does not HOLD", x.turned(made(x, TIMES, 0, 0, 1, no, 2)), 1);
        int minusZero = made(x, TIMES, 0, 5, 3, 4);
        valueIs("-0.0, and no number when turned", x, minusZero, -0.0);
        same("-0.0, and 0.0 for it would not HOLD", x.turned(minusZero), 0);
        same("0.0, and no number when turned", x.turned(made(x, TIMES, 0, 5, 5, 3, 4)), 1);
        same("no number either way", x.turned(made(x, ALL, 0, 6, 7)), 1);
        same("infinite either way", x.turned(made(x, ALL, 0, 6, 0, 6)), 1);
        same("no number, and infinite when turned", x.turned(made(x, ALL, 0, 8, 8, 7)), 0);
        same("infinite, and no number when turned", x.turned(made(x, ALL, 0, 7, 8, 8)), 0);
    }

    private void turnedOwnParts() {
        TracedSums x = withGiven(0.1, 0.2, 0.3);
        int sum = made(x, ALL, 0, 0, 1, 2);
        same("the PARTS", x.turned(sum), 0);
        same("not those of a PART", x.turned(made(x, ALL, 0, sum)), 1);
        same("nor those of a PART, there twice", x.turned(made(x, TIMES, 0, sum, sum)), 1);
        sameBits("nothing is changed by it", x.value(sum), 0.1 + 0.2 + 0.3);
        same("its first PART", x.told(sum, 10), 0);
    }

    private void turnedSorts() {
        TracedSums x = withGiven(1.0, 2.0);
        int[] due = {STATE, 1, 1, 1, STATE, STATE, STATE, STATE};
        for (int sort = GIVEN; sort <= SHARE; sort++) {
            int node = makeAny(x, sort);
            same("of SORT " + sort, x.turned(node), due[sort]);
            if (x.part(node, 0) == 1 && x.part(node, 1) == 2) {
                same("of SORT " + sort + " with two PARTS", x.turned(node), due[sort]);
            }
        }
    }

    private void asAtTheBeginning() {
        TracedSums x = withGiven(1.0, 2.0);
        int deep = 0;
        for (int i = 0; i < 8; i++) {
            deep = made(x, ALL, 0, deep, deep, 1);
        }
        x.explain(deep);
        same("more LINES than are kept", x.about(2), 1);
        same("a pair", x.compare(0, 1), 1);
        x.language(1);
        x.clear();
        for (int what = 0; what <= 3; what++) {
            same("about(" + what + ")", x.about(what), 0);
        }
        same("no NODE 0", x.told(0, 0), UNKNOWN);
        same("no LINE 0", x.line(0, 0), UNKNOWN);
        same("no pair 0", x.parts(0, 0), UNKNOWN);
        valueThrows(x, 0, NO_INDEX);
        textThrows(x, 0, 0, NO_INDEX);
        same("a LIFT of what was there", lifted(x, 0, 1.0), UNKNOWN);
        same("numbers from 0 on", giveFailing(x, 3.0), 0);
        doesNotHold("nothing is left of the NODE that had the number", x, 0);
        x.holds(0, true);
        x.explain(0);
        textIs(x, 0, "given #0");
        same("LANGUAGE 0", x.language(0), 0);
    }

    private void howManyThereWere() {
        TracedSums x = new TracedSums();
        same("none", x.clear(), 0);
        give(x, 1.0);
        same("one", x.clear(), 1);
        same("none again", x.clear(), 0);
        fillTo(x, 60);
        same("one more", x.norm(0), FULL);
        same("all", x.clear(), 60);
        fillTo(x, 60);
        same("as many as before", x.about(0), 60);
        same("one more", give(x, 1.0), FULL);
    }
}
