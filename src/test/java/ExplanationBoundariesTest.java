import java.io.IOException;

/** The boundaries of EXPLANATIONS, THE TEXT, INPUTS and THE CAUSE: term 2, and the promises 11, 12, 14 to 17 and 20. */
public final class ExplanationBoundariesTest extends Boundaries {
    private static final String[] ENGLISH = {"given", "all", "some", "times", "best", "lift", "norm", "share"};
    private static final String[] GERMAN = {"wert", "alle", "einige", "mal", "bestes", "faktor", "laenge", "anteil"};

    private ExplanationBoundariesTest() throws IOException {
        super("ExplanationBoundariesTest");
    }

    public static void main(String[] args) throws IOException {
        ExplanationBoundariesTest test = new ExplanationBoundariesTest();
        test.lines();
        test.texts();
        test.causesAndInputs();
        test.asking();
        test.checks.end();
    }

    private void lines() {
        term(2, "itself, at DEPTH 0", this::itself);
        term(2, "then of each of its PARTS, in order, the LINES likewise, at DEPTHS more by 1", this::depths);
        term(2, "200 at most (what is behind them is not kept).", this::twoHundredLines);
        term(2, "200 at most", this::linesCutAnywhere);
        term(2, "The first LINE is USED, if its NODE HOLDS", this::firstLineUsed);
        term(2, "that of a PART, if the LINE that it belongs to is USED", this::usedWithItsOwner);
        term(2, "for SOME: if the PART HOLDS", this::usedOfSome);
        term(2, "for BEST: if it stands where the WINNER does (of one NODE twice the first).", this::usedOfBest);
    }

    private void texts() {
        term(2, "two blanks for each DEPTH", this::blanks);
        term(2, "LANGUAGE 0, at first: given, all, some, times, best, lift, norm, share", () -> words(0, ENGLISH));
        term(2, "1: wert, alle, einige, mal, bestes, faktor, laenge, anteil", () -> words(1, GERMAN));
        term(2, "a blank, # and the number of its NODE, in decimals", this::numbersInDecimals);
        term(2, "and, if it is not USED, a blank and -.", this::unusedText);
    }

    private void causesAndInputs() {
        term(2, "the CAUSE of its first PART that does not, if there is one", this::causeOfFirst);
        term(2, "else itself.", this::causeItself);
        term(2, "INPUTS of a NODE are the GIVEN and NORM NODES of which it would have USED LINES", this::inputs);
        term(2, "(however many LINES there are).", this::inputsBehindManyLines);
        promise(11, "what = 0 SORT, 1 whether it HOLDS, 2 how many PARTS", this::toldFirst);
        promise(11, "3 the WINNER of a BEST (NONE: it does not HOLD; OUTSIDE: no BEST)", this::toldWinner);
        promise(11, "4 THE CAUSE (NONE: it HOLDS)", this::toldCause);
        promise(11, "5 how many INPUTS", this::toldInputs);
        promise(11, "10 .. 15: PART 0 .. 5 (NONE: it has not so many).", this::toldParts);
        promise(12, "INPUT k (from 0, by numbers) of a NODE", this::inputsByNumbers);
        promise(12, "NONE: it has not so many.", this::notSoManyInputs);
    }

    private void asking() {
        promise(14, "An EXPLANATION of a NODE is made: how many LINES.", this::howManyLines);
        promise(15, "its NODE (what = 0), DEPTH (1), whether it is USED (2), the LINE that it belongs to (3; NONE)",
            this::ownerOfLine);
        promise(15, "how many bytes THE TEXT has (4; by the LANGUAGE now)", this::bytesByLanguageNow);
        promise(15, "(As it was then.)", this::asItWasThen);
        promise(16, "Byte i of THE TEXT of LINE k.", this::bytes);
        promise(16, "ArrayIndexOutOfBoundsException: no such LINE, byte.", this::noSuchByte);
        promise(17, "The LANGUAGE (0, 1): which it was.", this::languages);
        promise(20, "1 LINES of the latest EXPLANATION", this::latestLines);
        promise(20, "2 whether there would have been more (1, 0)", this::wouldHaveBeenMore);
    }

    /** A NODE that has so many LINES: at least 3, and no more than its use of NODES allows. */
    private static int withLines(TracedSums x, int count) {
        int one = give(x, 1.0);
        int seven = made(x, ALL, 0, one, one, one, one, one, one);
        int many = made(x, ALL, 0, seven, seven, seven, seven, seven, seven);
        int node = one;
        int lines = 1;
        while (count - lines > 44) {
            node = made(x, ALL, 0, node, many);
            lines += 44;
        }
        while (count - lines > 8) {
            node = made(x, ALL, 0, node, seven);
            lines += 8;
        }
        while (lines < count) {
            node = lifted(x, node, 1.0);
            lines++;
        }
        return node;
    }

    private void itself() {
        TracedSums x = new TracedSums();
        int a = give(x, 1.0);
        int all = x.node(ALL, 0);
        same("LINES of a GIVEN", x.explain(a), 1);
        lineIs(x, 0, a, 0, 1, NONE);
        same("no LINE 1", x.line(1, 0), UNKNOWN);
        same("LINES of a NODE without PARTS", x.explain(all), 1);
        lineIs(x, 0, all, 0, 1, NONE);
        fillTo(x, 60);
        same("LINES of the last NODE", x.explain(59), 1);
        lineIs(x, 0, 59, 0, 1, NONE);
    }

    private void depths() {
        TracedSums x = new TracedSums();
        int deep = give(x, 1.0);
        for (int i = 1; i < 60; i++) {
            deep = lifted(x, deep, 1.0);
        }
        same("the longest chain", x.explain(deep), 60);
        for (int k = 0; k < 60; k++) {
            lineIs(x, k, 59 - k, k, 1, k - 1);
        }
        TracedSums y = new TracedSums();
        int a = give(y, 1.0);
        int b = give(y, 2.0);
        int ab = made(y, ALL, 0, b, a);
        int most = made(y, ALL, 0, a, ab, ab, b, ab, a);
        int[] nodes = {most, a, ab, b, a, ab, b, a, b, ab, b, a, a};
        int[] depths = {0, 1, 1, 2, 2, 1, 2, 2, 1, 1, 2, 2, 1};
        int[] owners = {NONE, 0, 0, 2, 2, 0, 5, 5, 0, 0, 9, 9, 0};
        same("six PARTS, one after the other", y.explain(most), nodes.length);
        for (int k = 0; k < nodes.length; k++) {
            lineIs(y, k, nodes[k], depths[k], 1, owners[k]);
        }
    }

    private void twoHundredLines() {
        for (int count = 197; count <= 203; count++) {
            TracedSums x = new TracedSums();
            int node = withLines(x, count);
            int kept = Math.min(count, 200);
            same(count + " LINES", x.explain(node), kept);
            same("how many are kept", x.about(1), kept);
            same("whether there would have been more", x.about(2), count > 200 ? 1 : 0);
            same("the last LINE's DEPTH", x.line(kept - 1, 1) > 0 ? 1 : 0, 1);
            same("no LINE behind it", x.line(kept, 0), UNKNOWN);
            textThrows(x, kept - 1, 0, "nothing");
            textThrows(x, kept, 0, NO_INDEX);
        }
    }

    private void linesCutAnywhere() {
        TracedSums x = new TracedSums();
        int two = give(x, 1.0);
        for (int i = 0; i < 59; i++) {
            two = made(x, TIMES, 0, two, two);
        }
        same("LINES of more than can be counted", x.explain(two), 200);
        same("more", x.about(2), 1);
        lineIs(x, 59, 0, 59, 1, 58);
        lineIs(x, 60, 0, 59, 1, 58);
        lineIs(x, 61, 1, 58, 1, 57);
        TracedSums y = new TracedSums();
        int last = withLines(y, 199);
        int over = made(y, ALL, 0, last, last);
        same("all of the first PART, none of the second", y.explain(over), 200);
        same("more", y.about(2), 1);
        same("the first PART alone", y.explain(made(y, ALL, 0, last)), 200);
        same("no more", y.about(2), 0);
        same("and its own", y.explain(last), 199);
        same("no more", y.about(2), 0);
    }

    private void firstLineUsed() {
        TracedSums x = new TracedSums();
        int a = give(x, 1.0);
        x.explain(a);
        lineIs(x, 0, a, 0, 1, NONE);
        x.holds(a, false);
        x.explain(a);
        lineIs(x, 0, a, 0, 0, NONE);
        x.explain(x.node(BEST, 0));
        same("a BEST without PARTS", x.line(0, 2), 0);
        x.explain(x.node(ALL, 0));
        same("an ALL without PARTS", x.line(0, 2), 1);
        x.explain(x.norm(0));
        same("a NORM of 0", x.line(0, 2), 1);
    }

    private void usedWithItsOwner() {
        TracedSums x = new TracedSums();
        int a = give(x, 1.0);
        int no = giveFailing(x, 1.0);
        int lift = lifted(x, a, 2.0);
        int times = made(x, TIMES, 0, lift, a);
        int share = made(x, SHARE, 0, times, lift);
        int all = made(x, ALL, 0, share, a);
        usesAre("all of what HOLDS", x, all, 1, 1, 1, 1, 1, 1, 1, 1, 1);
        int failing = made(x, ALL, 0, times, no);
        usesAre("none of what does not, though PARTS HOLD", x, failing, 0, 0, 0, 0, 0, 0);
        int some = made(x, SOME, 1, failing, times);
        usesAre("a PART that HOLDS of a PART that does not", x, some, 1, 0, 0, 0, 0, 0, 0, 1, 1, 1, 1);
    }

    private void usesAre(String what, TracedSums x, int node, int... due) {
        same(what + ", LINES", x.explain(node), due.length);
        for (int k = 0; k < due.length; k++) {
            same(what + ", LINE " + k, x.line(k, 2), due[k]);
        }
    }

    private void usedOfSome() {
        TracedSums x = new TracedSums();
        int a = give(x, 0.0);
        int no = giveFailing(x, 1.0);
        int best = made(x, BEST, 0, no);
        usesAre("those that HOLD", x, made(x, SOME, 2, no, a, best, a), 1, 0, 1, 0, 0, 1);
        usesAre("none, if it lacks one", x, made(x, SOME, 3, no, a, a), 0, 0, 0, 0);
        usesAre("all six", x, made(x, SOME, 1, a, a, a, a, a, a), 1, 1, 1, 1, 1, 1, 1);
        int infinite = give(x, INFINITY);
        int below = give(x, -INFINITY);
        usesAre("none, if it is no number", x, made(x, SOME, 1, infinite, below), 0, 0, 0);
    }

    private void usedOfBest() {
        TracedSums x = new TracedSums();
        int a = give(x, 1.0);
        int same = give(x, 1.0);
        int greater = give(x, 2.0);
        int no = giveFailing(x, 9.0);
        usesAre("of one NODE twice the first", x, made(x, BEST, 0, a, a), 1, 1, 0);
        usesAre("of one NODE twice, behind another", x, made(x, BEST, 0, a, greater, a, greater), 1, 0, 1, 0, 0);
        usesAre("of equal NODES the first", x, made(x, BEST, 0, no, same, a), 1, 0, 1, 0);
        usesAre("the sixth", x, made(x, BEST, 0, no, a, same, a, no, greater), 1, 0, 0, 0, 0, 0, 1);
        usesAre("none, if it does not HOLD", x, made(x, BEST, 0, no, no), 0, 0, 0);
        int lift = lifted(x, greater, 2.0);
        usesAre("with what belongs to it", x, made(x, BEST, 0, a, lift, lift), 1, 0, 1, 1, 0, 0);
    }

    private void blanks() {
        TracedSums x = new TracedSums();
        int deep = give(x, 1.0);
        for (int i = 1; i < 60; i++) {
            deep = lifted(x, deep, 1.0);
        }
        x.explain(deep);
        int[] lines = {0, 1, 2, 58};
        for (int k : lines) {
            same("bytes of LINE " + k, x.line(k, 4), 2 * k + ("lift #" + (59 - k)).length());
        }
        textIs(x, 0, "lift #59");
        textIs(x, 1, "  lift #58");
        textIs(x, 2, "    lift #57");
        textIs(x, 59, " ".repeat(118) + "given #0");
    }

    private void words(int language, String[] words) {
        TracedSums x = new TracedSums();
        give(x, 1.0);
        x.node(ALL, 0);
        x.part(x.node(SOME, 1), 0);
        x.node(TIMES, 0);
        x.part(x.node(BEST, 0), 0);
        lifted(x, 0, 1.0);
        x.norm(0);
        int share = made(x, SHARE, 0, 0, 0);
        if (language == 1) {
            same("LANGUAGE 0 at first", x.language(1), 0);
        }
        for (int node = 0; node <= share; node++) {
            x.explain(node);
            textIs(x, 0, words[node] + " #" + node);
        }
    }

    private void numbersInDecimals() {
        TracedSums x = new TracedSums();
        fillTo(x, 60);
        int[] numbers = {0, 1, 9, 10, 11, 19, 20, 58, 59};
        for (int number : numbers) {
            x.explain(number);
            textIs(x, 0, "norm #" + number);
        }
    }

    private void unusedText() {
        TracedSums x = new TracedSums();
        int a = give(x, 1.0);
        int no = giveFailing(x, 1.0);
        x.explain(no);
        textIs(x, 0, "given #1 -");
        same("bytes", x.line(0, 4), 10);
        x.explain(made(x, SOME, 1, no, a));
        textIs(x, 0, "some #2");
        textIs(x, 1, "  given #1 -");
        textIs(x, 2, "  given #0");
        x.language(1);
        textIs(x, 1, "  wert #1 -");
    }

    private void causeOfFirst() {
        TracedSums x = new TracedSums();
        int a = give(x, 1.0);
        int no = giveFailing(x, 1.0);
        int other = giveFailing(x, 1.0);
        same("the first of two", x.told(made(x, ALL, 0, a, other, no), 4), other);
        same("the sixth", x.told(made(x, ALL, 0, a, a, a, a, a, no), 4), no);
        same("of a BEST", x.told(made(x, BEST, 0, no, other), 4), no);
        same("of a SOME that lacks one", x.told(made(x, SOME, 2, a, other), 4), other);
        same("of a SHARE", x.told(made(x, SHARE, 0, a, no), 4), no);
        same("of a SHARE with one PART", x.told(made(x, SHARE, 0, other), 4), other);
        int infinite = give(x, INFINITY);
        int below = give(x, -INFINITY);
        same("of what would be no number too", x.told(made(x, SOME, 1, infinite, below, no), 4), no);
        int deep = no;
        for (int number = x.about(0); number < 60; number++) {
            deep = lifted(x, deep, 1.0);
        }
        same("at the end of a long chain", x.told(deep, 4), no);
        TracedSums y = new TracedSums();
        int chain = giveFailing(y, 1.0);
        for (int number = 1; number < 60; number++) {
            chain = lifted(y, chain, 1.0);
        }
        same("at the end of the longest chain", y.told(chain, 4), 0);
        y.holds(0, true);
        same("none any more", y.told(chain, 4), NONE);
    }

    private void causeItself() {
        TracedSums x = new TracedSums();
        int a = give(x, 1.0);
        int no = giveFailing(x, 1.0);
        same("a GIVEN", x.told(no, 4), no);
        int best = x.node(BEST, 0);
        same("a BEST without PARTS", x.told(best, 4), best);
        int some = made(x, SOME, 3, a, a);
        same("a SOME that lacks one, though all HOLD", x.told(some, 4), some);
        int share = made(x, SHARE, 0, a);
        same("a SHARE with one PART that HOLDS", x.told(share, 4), share);
        x.part(share, a);
        x.part(share, a);
        same("a SHARE with three PARTS that HOLD", x.told(share, 4), share);
        int infinite = give(x, INFINITY);
        int odd = lifted(x, infinite, 0.0);
        same("what is no number", x.told(odd, 4), odd);
        same("above it", x.told(made(x, ALL, 0, a, odd, no), 4), odd);
        same("above a BEST without PARTS", x.told(made(x, TIMES, 0, a, best, no), 4), best);
    }

    private void inputs() {
        TracedSums x = new TracedSums();
        int a = give(x, 1.0);
        int norm = x.norm(3);
        int no = giveFailing(x, 2.0);
        inputsAre("a GIVEN, of itself", x, a, a);
        inputsAre("a NORM, of itself", x, norm, norm);
        inputsAre("a GIVEN that does not HOLD", x, no);
        inputsAre("an ALL without PARTS", x, x.node(ALL, 0));
        inputsAre("one there twice", x, made(x, ALL, 0, a, a), a);
        inputsAre("what does not HOLD", x, made(x, ALL, 0, a, norm, no));
        inputsAre("of a BEST the WINNER alone", x, made(x, BEST, 0, a, norm), norm);
        int some = made(x, SOME, 1, no, a, norm);
        inputsAre("of a SOME those that HOLD", x, some, a, norm);
        int best = made(x, BEST, 0, lifted(x, a, 9.0), some);
        inputsAre("of what the WINNER has", x, best, a);
        inputsAre("above it", x, made(x, TIMES, 0, best, norm), a, norm);
        int share = made(x, SHARE, 0, norm, a);
        inputsAre("of a SHARE", x, share, a, norm);
        int lacking = made(x, SOME, 2, norm, no);
        inputsAre("not of a PART that does not HOLD, though its own PART does", x, made(x, SOME, 1, lacking, a), a);
    }

    private void inputsAre(String what, TracedSums x, int node, int... due) {
        same(what + ": how many INPUTS", x.told(node, 5), due.length);
        for (int k = 0; k < due.length; k++) {
            same(what + ": INPUT " + k, x.input(node, k), due[k]);
        }
        same(what + ": no more", x.input(node, due.length), NONE);
    }

    private void inputsBehindManyLines() {
        TracedSums x = new TracedSums();
        int a = give(x, 1.0);
        int norm = x.norm(1);
        int deep = a;
        for (int i = 0; i < 25; i++) {
            deep = made(x, TIMES, 0, deep, deep, deep, deep, deep, deep);
        }
        int over = made(x, TIMES, 0, deep, norm);
        same("200 LINES", x.explain(over), 200);
        for (int k = 0; k < 200; k++) {
            if (x.line(k, 0) == norm) {
                checks.fail("the NORM has a LINE that is kept, so that nothing is tested");
            }
        }
        inputsAre("though its LINE is not kept", x, over, a, norm);
    }

    private void toldFirst() {
        TracedSums x = new TracedSums();
        give(x, 1.0);
        x.node(ALL, 0);
        x.node(SOME, 6);
        x.node(TIMES, 0);
        x.node(BEST, 0);
        lifted(x, 0, 1.0);
        x.norm(0);
        x.node(SHARE, 0);
        int[] holding = {1, 1, 0, 1, 0, 1, 1, 0};
        int[] parts = {0, 0, 0, 0, 0, 1, 0, 0};
        for (int sort = GIVEN; sort <= SHARE; sort++) {
            same("SORT", x.told(sort, 0), sort);
            same("whether " + sort + " HOLDS", x.told(sort, 1), holding[sort]);
            same("how many PARTS " + sort + " has", x.told(sort, 2), parts[sort]);
        }
    }

    private void toldWinner() {
        TracedSums x = new TracedSums();
        int a = give(x, 1.0);
        int no = giveFailing(x, 2.0);
        int[] others = {a, no, x.node(ALL, 0), x.node(SOME, 1), x.node(TIMES, 0), lifted(x, a, 1.0), x.norm(1), x.node(SHARE, 0)};
        for (int other : others) {
            same("no BEST, " + other, x.told(other, 3), OUTSIDE);
        }
        int best = x.node(BEST, 0);
        same("a BEST without PARTS", x.told(best, 3), NONE);
        x.part(best, no);
        same("a BEST that does not HOLD", x.told(best, 3), NONE);
        x.part(best, a);
        same("its second PART", x.told(best, 3), a);
        x.holds(no, true);
        same("its first PART", x.told(best, 3), no);
    }

    private void toldCause() {
        TracedSums x = new TracedSums();
        int a = give(x, 1.0);
        int no = giveFailing(x, 2.0);
        int some = made(x, SOME, 1, no, a);
        same("it HOLDS", x.told(a, 4), NONE);
        same("it HOLDS, though a PART does not", x.told(some, 4), NONE);
        same("it does not HOLD", x.told(no, 4), no);
        x.holds(a, false);
        same("nor does this any more", x.told(some, 4), no);
    }

    private void toldInputs() {
        TracedSums x = new TracedSums();
        same("none", x.told(x.node(TIMES, 0), 5), 0);
        same("one", x.told(give(x, 1.0), 5), 1);
        TracedSums most = new TracedSums();
        fillTo(most, 50);
        int deep = 49;
        for (int first = 0; first < 49; first += 5) {
            int node = made(most, ALL, 0, deep);
            for (int part = first; part < first + 5 && part < 49; part++) {
                most.part(node, part);
            }
            deep = node;
        }
        same("as many as sixty NODES allow", most.told(deep, 5), 50);
        same("the first of them", most.input(deep, 0), 0);
        same("the last of them", most.input(deep, 49), 49);
        same("no more", most.input(deep, 50), NONE);
    }

    private void toldParts() {
        for (int count = 0; count <= 6; count++) {
            TracedSums x = new TracedSums();
            fillTo(x, 6);
            int node = x.node(ALL, 0);
            for (int i = 0; i < count; i++) {
                x.part(node, 5 - i);
            }
            for (int i = 0; i < 6; i++) {
                same("PART " + i + " of " + count, x.told(node, 10 + i), i < count ? 5 - i : NONE);
            }
            same("what = 9", x.told(node, 9), OUTSIDE);
            same("what = 16", x.told(node, 16), OUTSIDE);
        }
    }

    private void inputsByNumbers() {
        TracedSums x = new TracedSums();
        fillTo(x, 58);
        int best = made(x, BEST, 0, 32, 1);
        int all = made(x, ALL, 0, 57, best, 33, 31, 0, 33);
        inputsAre("by numbers, beyond what an int has bits for", x, all, 0, 31, 32, 33, 57);
        TracedSums y = new TracedSums();
        fillTo(y, 60);
        inputsAre("the last NODE", y, 59, 59);
        inputsAre("the one before it by 32", y, 27, 27);
    }

    private void notSoManyInputs() {
        TracedSums x = new TracedSums();
        int a = give(x, 1.0);
        int norm = x.norm(1);
        int all = made(x, ALL, 0, norm, a);
        same("the first", x.input(all, 0), a);
        same("the last", x.input(all, 1), norm);
        int[] wrong = {2, 3, 59, 60, -1, -2, Integer.MAX_VALUE, Integer.MIN_VALUE};
        for (int k : wrong) {
            same("INPUT " + k, x.input(all, k), NONE);
        }
        int none = x.node(ALL, 0);
        same("no first", x.input(none, 0), NONE);
        same("nor one below", x.input(none, -1), NONE);
    }

    private void howManyLines() {
        TracedSums x = new TracedSums();
        int a = give(x, 1.0);
        same("one", x.explain(a), 1);
        same("seven", x.explain(made(x, ALL, 0, a, a, a, a, a, a)), 7);
        same("one again", x.explain(a), 1);
        same("no LINE of the one before", x.line(1, 0), UNKNOWN);
        fillTo(x, 60);
        same("of the last NODE", x.explain(59), 1);
    }

    private void ownerOfLine() {
        TracedSums x = new TracedSums();
        int node = withLines(x, 200);
        same("LINES", x.explain(node), 200);
        same("the first LINE belongs to none", x.line(0, 3), NONE);
        same("the second to the first", x.line(1, 3), 0);
        int k = 199;
        same("the last LINE's NODE", x.line(k, 0), 0);
        same("the last LINE is USED", x.line(k, 2), 1);
        for (int depth = x.line(k, 1); depth > 0; depth--) {
            int owner = x.line(k, 3);
            same("one DEPTH less", x.line(owner, 1), depth - 1);
            same("a LINE before it", owner < k ? 1 : 0, 1);
            k = owner;
        }
        same("at last the first LINE", k, 0);
        same("what = 4 is the last", x.line(0, 4), ("lift #" + node).length());
        same("what = 5", x.line(0, 5), OUTSIDE);
    }

    private void bytesByLanguageNow() {
        TracedSums x = new TracedSums();
        int a = give(x, 1.0);
        x.explain(made(x, SOME, 1, a));
        same("some #1", x.line(0, 4), 7);
        same("  given #0", x.line(1, 4), 10);
        x.language(1);
        same("einige #1", x.line(0, 4), 9);
        same("  wert #0", x.line(1, 4), 9);
        x.language(0);
        same("some #1 again", x.line(0, 4), 7);
    }

    private void asItWasThen() {
        TracedSums x = new TracedSums();
        int a = give(x, 1.0);
        int some = made(x, SOME, 1, a);
        x.explain(some);
        x.holds(a, false);
        x.part(some, a);
        same("as many LINES", x.about(1), 2);
        lineIs(x, 0, some, 0, 1, NONE);
        lineIs(x, 1, a, 1, 1, 0);
        textIs(x, 1, "  given #0");
        same("no LINE of the PART that came", x.line(2, 0), UNKNOWN);
        x.explain(some);
        lineIs(x, 0, some, 0, 0, NONE);
        lineIs(x, 2, a, 1, 0, 0);
        x.holds(a, true);
        lineIs(x, 2, a, 1, 0, 0);
        textIs(x, 2, "  given #0 -");
    }

    private void bytes() {
        TracedSums x = new TracedSums();
        int no = giveFailing(x, 1.0);
        x.explain(made(x, BEST, 0, no));
        String due = "  given #0 -";
        for (int i = 0; i < due.length(); i++) {
            same("byte " + i, x.text(1, i), due.charAt(i));
        }
        same("the first byte of the first LINE", x.text(0, 0), 'b');
        same("the last byte of the first LINE", x.text(0, 8), '-');
    }

    private void noSuchByte() {
        TracedSums x = new TracedSums();
        textThrows(x, 0, 0, NO_INDEX);
        int a = give(x, 1.0);
        textThrows(x, 0, 0, NO_INDEX);
        x.explain(lifted(x, a, 1.0));
        int[] wrongBytes = {7, 8, -1, Integer.MAX_VALUE, Integer.MIN_VALUE};
        textThrows(x, 0, 6, "nothing");
        for (int i : wrongBytes) {
            textThrows(x, 0, i, NO_INDEX);
        }
        int[] wrongLines = {2, 3, 200, -1, Integer.MAX_VALUE, Integer.MIN_VALUE};
        textThrows(x, 1, 0, "nothing");
        for (int k : wrongLines) {
            textThrows(x, k, 0, NO_INDEX);
        }
        textThrows(x, 1, 9, "nothing");
        textThrows(x, 1, 10, NO_INDEX);
        x.language(1);
        textThrows(x, 1, 8, "nothing");
        textThrows(x, 1, 9, NO_INDEX);
        textThrows(x, 0, 8, "nothing");
        textThrows(x, 0, 9, NO_INDEX);
        x.explain(a);
        textThrows(x, 1, 0, NO_INDEX);
        x.clear();
        textThrows(x, 0, 0, NO_INDEX);
    }

    private void languages() {
        TracedSums x = new TracedSums();
        same("0 at first", x.language(0), 0);
        same("still 0", x.language(1), 0);
        same("1 now", x.language(1), 1);
        int[] wrong = {2, -1, 3, Integer.MAX_VALUE, Integer.MIN_VALUE};
        for (int l : wrong) {
            same("LANGUAGE " + l, x.language(l), OUTSIDE);
        }
        same("still 1", x.language(0), 1);
        same("0 now", x.language(0), 0);
    }

    private void latestLines() {
        TracedSums x = new TracedSums();
        same("no EXPLANATION", x.about(1), 0);
        int a = give(x, 1.0);
        int all = made(x, ALL, 0, a, a);
        same("none yet", x.about(1), 0);
        x.explain(all);
        same("three", x.about(1), 3);
        x.explain(a);
        same("one", x.about(1), 1);
    }

    private void wouldHaveBeenMore() {
        TracedSums x = new TracedSums();
        same("no EXPLANATION", x.about(2), 0);
        int node = withLines(x, 201);
        same("none yet", x.about(2), 0);
        x.explain(node);
        same("201 LINES", x.about(2), 1);
        x.explain(x.told(node, 10));
        same("200 LINES", x.about(2), 0);
        same("all of them", x.about(1), 200);
        x.explain(node);
        x.explain(60);
        same("after a refused explain()", x.about(2), 1);
        x.clear();
        same("after clear()", x.about(2), 0);
    }
}
