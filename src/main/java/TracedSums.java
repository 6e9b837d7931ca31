import java.util.ArrayList;
import java.util.Arrays;

/**
 * Scores made of parts, and why they are what they are.
 *
 * The words in capitals are those of the document (NODE, PART, HOLDS, VALUE and so on).
 */
public final class TracedSums {

    public static final int NONE = -1, UNKNOWN = -101, OUTSIDE = -102, FULL = -103, STATE = -104;

    private static final int MOST_NODES = 60;
    private static final int MOST_PARTS = 6;
    private static final int MOST_LINES = 200;

    private static final Sort[] SORTS = Sort.values();

    private final Nodes nodes;
    private final Explanation explanation;
    private final Comparison comparison;
    private int language;

    public TracedSums() {
        nodes = new Nodes();
        explanation = new Explanation(nodes);
        comparison = new Comparison(nodes);
        language = 0;
    }

    public int given(long bits, boolean holds) {
        if (!Doubles.isNumber(bits)) {
            return OUTSIDE;
        }
        if (nodes.isFull()) {
            return FULL;
        }
        Node node = new Node(nodes.size(), Sort.GIVEN);
        node.toldValue = Doubles.ofBits(bits);
        node.toldHolds = holds;
        return nodes.take(node);
    }

    public int node(int sort, int need) {
        if (sort < 0 || sort >= SORTS.length || !SORTS[sort].takesParts) {
            return OUTSIDE;
        }
        if (SORTS[sort] == Sort.SOME && (need < 1 || need > MOST_PARTS)) {
            return OUTSIDE;
        }
        if (nodes.isFull()) {
            return FULL;
        }
        Node node = new Node(nodes.size(), SORTS[sort]);
        node.need = need;
        return nodes.take(node);
    }

    public int lift(int part, long bits) {
        if (!nodes.has(part)) {
            return UNKNOWN;
        }
        if (!Doubles.isNumber(bits)) {
            return OUTSIDE;
        }
        if (nodes.isFull()) {
            return FULL;
        }
        Node node = new Node(nodes.size(), Sort.LIFT);
        node.factor = Doubles.ofBits(bits);
        node.parts.add(nodes.at(part));
        return nodes.take(node);
    }

    public int norm(int length) {
        if (length < 0) {
            return OUTSIDE;
        }
        if (nodes.isFull()) {
            return FULL;
        }
        Node node = new Node(nodes.size(), Sort.NORM);
        node.length = length;
        return nodes.take(node);
    }

    public int part(int node, int part) {
        if (!nodes.has(node) || !nodes.has(part)) {
            return UNKNOWN;
        }
        Node whole = nodes.at(node);
        if (!whole.sort.takesParts) {
            return STATE;
        }
        if (part >= node) {
            return OUTSIDE;
        }
        if (whole.parts.size() >= MOST_PARTS) {
            return FULL;
        }
        whole.parts.add(nodes.at(part));
        nodes.settleFrom(node);
        return whole.parts.size();
    }

    public int holds(int node, boolean does) {
        if (!nodes.has(node)) {
            return UNKNOWN;
        }
        Node given = nodes.at(node);
        if (given.sort != Sort.GIVEN) {
            return STATE;
        }
        boolean did = given.toldHolds;
        given.toldHolds = does;
        nodes.settleFrom(node);
        return did ? 1 : 0;
    }

    public double value(int node) throws ArrayIndexOutOfBoundsException {
        if (!nodes.has(node)) {
            throw new ArrayIndexOutOfBoundsException();
        }
        return nodes.at(node).value;
    }

    public double factor(int node) throws ArrayIndexOutOfBoundsException, ClassCastException {
        if (!nodes.has(node)) {
            throw new ArrayIndexOutOfBoundsException();
        }
        Node lift = nodes.at(node);
        if (lift.sort != Sort.LIFT) {
            throw new ClassCastException();
        }
        return lift.factor;
    }

    public int packed(int node, int what) throws ArrayIndexOutOfBoundsException, ClassCastException {
        if (!nodes.has(node)) {
            throw new ArrayIndexOutOfBoundsException();
        }
        Node norm = nodes.at(node);
        if (norm.sort != Sort.NORM) {
            throw new ClassCastException();
        }
        switch (what) {
            case 0:
                return norm.length;
            case 1:
                return Lengths.pack(norm.length);
            default:
                return Lengths.unpack(Lengths.pack(norm.length));
        }
    }

    public int told(int node, int what) {
        if (!nodes.has(node)) {
            return UNKNOWN;
        }
        Node asked = nodes.at(node);
        if (what >= 10 && what < 10 + MOST_PARTS) {
            return asked.numberOfPart(what - 10);
        }
        switch (what) {
            case 0:
                return asked.sort.number;
            case 1:
                return asked.holds ? 1 : 0;
            case 2:
                return asked.parts.size();
            case 3:
                return asked.sort == Sort.BEST ? asked.numberOfPart(asked.winner) : OUTSIDE;
            case 4:
                return nodes.causeOf(asked);
            case 5:
                return Long.bitCount(nodes.inputsOf(asked));
            default:
                return OUTSIDE;
        }
    }

    public int input(int node, int k) {
        if (!nodes.has(node)) {
            return UNKNOWN;
        }
        long inputs = nodes.inputsOf(nodes.at(node));
        int passed = 0;
        for (int number = 0; number <= node; number++) {
            if (Bits.has(inputs, number)) {
                if (passed == k) {
                    return number;
                }
                passed++;
            }
        }
        return NONE;
    }

    public int turned(int node) {
        if (!nodes.has(node)) {
            return UNKNOWN;
        }
        Node asked = nodes.at(node);
        if (asked.sort != Sort.ALL && asked.sort != Sort.SOME && asked.sort != Sort.TIMES) {
            return STATE;
        }
        return Doubles.haveSameBits(asked.value, nodes.valueFromLastOn(asked)) ? 1 : 0;
    }

    public int explain(int node) {
        if (!nodes.has(node)) {
            return UNKNOWN;
        }
        explanation.make(nodes.at(node));
        return explanation.size;
    }

    public int line(int k, int what) {
        if (!explanation.has(k)) {
            return UNKNOWN;
        }
        switch (what) {
            case 0:
                return explanation.node[k];
            case 1:
                return explanation.depth[k];
            case 2:
                return explanation.used[k] ? 1 : 0;
            case 3:
                return explanation.owner[k];
            case 4:
                return explanation.write(k, language).length();
            default:
                return OUTSIDE;
        }
    }

    public int text(int k, int i) throws ArrayIndexOutOfBoundsException {
        if (!explanation.has(k)) {
            throw new ArrayIndexOutOfBoundsException();
        }
        StringBuilder written = explanation.write(k, language);
        if (i < 0 || i >= written.length()) {
            throw new ArrayIndexOutOfBoundsException();
        }
        return written.charAt(i);
    }

    public int language(int l) {
        if (l != 0 && l != 1) {
            return OUTSIDE;
        }
        int before = language;
        language = l;
        return before;
    }

    public int compare(int a, int b) {
        if (!nodes.has(a) || !nodes.has(b)) {
            return UNKNOWN;
        }
        comparison.make(a, b);
        return comparison.size;
    }

    public int parts(int k, int what) {
        if (!comparison.has(k)) {
            return UNKNOWN;
        }
        switch (what) {
            case 0:
                return comparison.pair[k] / MOST_NODES;
            case 1:
                return comparison.pair[k] % MOST_NODES;
            case 2:
                return comparison.why[k];
            default:
                return OUTSIDE;
        }
    }

    public int about(int what) {
        switch (what) {
            case 0:
                return nodes.size();
            case 1:
                return explanation.size;
            case 2:
                return explanation.wouldGoOn ? 1 : 0;
            case 3:
                return comparison.size;
            default:
                return OUTSIDE;
        }
    }

    public int clear() {
        int before = nodes.size();
        nodes.forget();
        explanation.forget();
        comparison.forget();
        language = 0;
        return before;
    }

    /** The SORTS in the order of their numbers, with their WORDS. */
    private enum Sort {
        GIVEN(0, false, "given", "wert"),
        ALL(1, true, "all", "alle"),
        SOME(2, true, "some", "einige"),
        TIMES(3, true, "times", "mal"),
        BEST(4, true, "best", "bestes"),
        LIFT(5, false, "lift", "faktor"),
        NORM(6, false, "norm", "laenge"),
        SHARE(7, true, "share", "anteil");

        final int number;
        /** Whether it is made without PARTS, to be given them one by one. */
        final boolean takesParts;
        final String english;
        final String german;

        Sort(int number, boolean takesParts, String english, String german) {
            this.number = number;
            this.takesParts = takesParts;
            this.english = english;
            this.german = german;
        }

        String word(int language) {
            return language == 0 ? english : german;
        }
    }

    /** What of doubles and their bits has to be said in arithmetic alone. */
    private static final class Doubles {

        static boolean isNumber(long bits) {
            return exponent(bits) != 0x7FF || fraction(bits) == 0L;
        }

        /** The double that has these bits, which must not be those of NaN. */
        static double ofBits(long bits) {
            int exponent = exponent(bits);
            // The exponent of the infinities needs no case of its own: 2 to the 1024 overflows to infinity.
            double size = exponent == 0
                    ? timesPowerOfTwo(fraction(bits), -1074)
                    : timesPowerOfTwo(fraction(bits) | (1L << 52), exponent - 1075);
            return bits < 0L ? -size : size;
        }

        private static int exponent(long bits) {
            return (int) (bits >>> 52) & 0x7FF;
        }

        private static long fraction(long bits) {
            return bits & ((1L << 52) - 1L);
        }

        /** Exact at each step, since there are no more than 53 digits, and all of them still fit into the result. */
        private static double timesPowerOfTwo(long digits, int power) {
            double product = (double) digits;
            double two = power < 0 ? 0.5 : 2.0;
            double twoToThe32 = power < 0 ? 1.0 / 4294967296.0 : 4294967296.0;
            int count = power < 0 ? -power : power;
            for (int i = 0; i < count / 32; i++) {
                product = product * twoToThe32;
            }
            for (int i = 0; i < count % 32; i++) {
                product = product * two;
            }
            return product;
        }

        static boolean isInfinite(double x) {
            return x > 1.7976931348623157E308 || x < -1.7976931348623157E308;
        }

        static boolean haveSameBits(double a, double b) {
            if (a != b) {
                return false;
            }
            // Of equal doubles only the two zeros have other bits, and only by dividing they show it.
            return a != 0.0 || 1.0 / a == 1.0 / b;
        }
    }

    /** A double that is reckoned step by step, until a step would answer NaN. */
    private static final class Tally {
        private double value;
        private boolean isNumber;

        void start(double first) {
            value = first;
            isNumber = true;
        }

        void add(double x) {
            if (Doubles.isInfinite(value) && Doubles.isInfinite(x) && value != x) {
                isNumber = false;
            }
            if (isNumber) {
                value = value + x;
            }
        }

        void multiply(double x) {
            if (value == 0.0 && Doubles.isInfinite(x) || Doubles.isInfinite(value) && x == 0.0) {
                isNumber = false;
            }
            if (isNumber) {
                value = value * x;
            }
        }

        void divide(double x) {
            if (value == 0.0 && x == 0.0 || Doubles.isInfinite(value) && Doubles.isInfinite(x)) {
                isNumber = false;
            }
            if (isNumber) {
                value = value / x;
            }
        }

        /** The VALUE that a NODE has by this: 0.0, if it is no number. */
        double result() {
            return isNumber ? value : 0.0;
        }
    }

    /** Lengths packed into bytes: of more than four bits the highest four stay. */
    private static final class Lengths {

        static int pack(int length) {
            if (length < 8) {
                return length;
            }
            int bits = 4;
            while (bits < 31 && length >> bits > 0) {
                bits++;
            }
            return 8 * (bits - 3) + (length >> (bits - 4)) % 8;
        }

        static int unpack(int packed) {
            return packed < 8 ? packed : (8 + packed % 8) << (packed / 8 - 1);
        }
    }

    /** Sets of NODES by their numbers, as the bits of a long. */
    private static final class Bits {

        static boolean has(long set, int number) {
            return (set >>> number & 1L) != 0L;
        }

        static long with(long set, int number) {
            return set | 1L << number;
        }
    }

    /** A NODE: what was told of it, and what settle() makes of that. */
    private static final class Node {
        final int number;
        final Sort sort;
        final ArrayList<Node> parts;
        boolean toldHolds;
        double toldValue;
        int need;
        double factor;
        int length;
        boolean holds;
        double value;
        /** Where among the PARTS of a BEST its WINNER stands, or NONE. */
        int winner;

        Node(int number, Sort sort) {
            this.number = number;
            this.sort = sort;
            this.parts = new ArrayList<Node>();
            this.winner = NONE;
        }

        /** Finds anew whether it HOLDS, its VALUE and its WINNER; its PARTS must be settled. */
        void settle(Tally tally) {
            winner = sort == Sort.BEST ? placeOfGreatest() : NONE;
            boolean met = isMet();
            if (met) {
                reckon(tally, false);
            }
            holds = met && tally.isNumber;
            value = holds ? tally.result() : 0.0;
        }

        /** Its VALUE, if its PARTS were taken from the last one on. */
        double valueFromLastOn(Tally tally) {
            if (!isMet()) {
                return 0.0;
            }
            reckon(tally, true);
            return tally.result();
        }

        /** Whether it HOLDS, unless its VALUE would be no number. */
        private boolean isMet() {
            int holding = countHolding();
            switch (sort) {
                case GIVEN:
                    return toldHolds;
                case SOME:
                    return holding >= need;
                case BEST:
                    return holding > 0;
                case SHARE:
                    return parts.size() == 2 && holding == 2;
                default:
                    return holding == parts.size();
            }
        }

        private int countHolding() {
            int holding = 0;
            for (int i = 0; i < parts.size(); i++) {
                if (parts.get(i).holds) {
                    holding++;
                }
            }
            return holding;
        }

        private int placeOfGreatest() {
            int place = NONE;
            double greatest = 0.0;
            for (int i = 0; i < parts.size(); i++) {
                Node part = parts.get(i);
                if (part.holds && (place == NONE || part.value > greatest)) {
                    place = i;
                    greatest = part.value;
                }
            }
            return place;
        }

        private void reckon(Tally tally, boolean fromLastOn) {
            switch (sort) {
                case GIVEN:
                    tally.start(toldValue);
                    break;
                case NORM:
                    tally.start((double) Lengths.unpack(Lengths.pack(length)));
                    break;
                case BEST:
                    tally.start(valueOfPart(winner));
                    break;
                case LIFT:
                    tally.start(valueOfPart(0));
                    tally.multiply(factor);
                    break;
                case SHARE:
                    tally.start(valueOfPart(0));
                    tally.divide(valueOfPart(1));
                    break;
                case TIMES:
                    multiplyParts(tally, fromLastOn);
                    break;
                default:
                    addPartsThatHold(tally, fromLastOn);
            }
        }

        private void multiplyParts(Tally tally, boolean fromLastOn) {
            tally.start(1.0);
            for (int i = 0; i < parts.size(); i++) {
                int place = fromLastOn ? parts.size() - 1 - i : i;
                tally.multiply(parts.get(place).value);
            }
        }

        private void addPartsThatHold(Tally tally, boolean fromLastOn) {
            tally.start(0.0);
            for (int i = 0; i < parts.size(); i++) {
                int place = fromLastOn ? parts.size() - 1 - i : i;
                if (parts.get(place).holds) {
                    tally.add(parts.get(place).value);
                }
            }
        }

        private double valueOfPart(int place) {
            return hasPart(place) ? parts.get(place).value : 0.0;
        }

        int numberOfPart(int place) {
            return hasPart(place) ? parts.get(place).number : NONE;
        }

        private boolean hasPart(int place) {
            return place >= 0 && place < parts.size();
        }

        /** Whether the LINE of the PART at this place is USED, where its own LINE is. */
        boolean uses(int place) {
            switch (sort) {
                case SOME:
                    return hasPart(place) && parts.get(place).holds;
                case BEST:
                    return place == winner;
                default:
                    return true;
            }
        }

        /** Its first PART that does not HOLD, or null. */
        Node firstFailingPart() {
            for (int i = 0; i < parts.size(); i++) {
                if (!parts.get(i).holds) {
                    return parts.get(i);
                }
            }
            return null;
        }
    }

    /** All NODES, each of them settled at any time. */
    private static final class Nodes {
        private final ArrayList<Node> list;
        private final Tally tally;

        Nodes() {
            list = new ArrayList<Node>();
            tally = new Tally();
        }

        int size() {
            return list.size();
        }

        boolean isFull() {
            return list.size() >= MOST_NODES;
        }

        boolean has(int number) {
            return number >= 0 && number < list.size();
        }

        Node at(int number) {
            return list.get(number);
        }

        int take(Node node) {
            list.add(node);
            settleFrom(node.number);
            return node.number;
        }

        /** PARTS come before what they are PARTS of: one way through the numbers settles all. */
        void settleFrom(int number) {
            for (int i = number; i < list.size(); i++) {
                list.get(i).settle(tally);
            }
        }

        double valueFromLastOn(Node node) {
            return node.valueFromLastOn(tally);
        }

        int causeOf(Node node) {
            if (node.holds) {
                return NONE;
            }
            Node cause = node;
            Node failing = cause.firstFailingPart();
            for (int step = 0; step < MOST_NODES && failing != null; step++) {
                cause = failing;
                failing = cause.firstFailingPart();
            }
            return cause.number;
        }

        /** The set of the INPUTS: whether a LINE is USED hangs on the NODES above it alone, so no LINES are needed. */
        long inputsOf(Node node) {
            long used = node.holds ? Bits.with(0L, node.number) : 0L;
            long inputs = 0L;
            for (int number = node.number; number >= 0; number--) {
                if (Bits.has(used, number)) {
                    Node user = list.get(number);
                    if (user.sort == Sort.GIVEN || user.sort == Sort.NORM) {
                        inputs = Bits.with(inputs, number);
                    }
                    used = withUsedParts(used, user);
                }
            }
            return inputs;
        }

        private long withUsedParts(long used, Node user) {
            long all = used;
            for (int i = 0; i < user.parts.size(); i++) {
                if (user.uses(i)) {
                    all = Bits.with(all, user.parts.get(i).number);
                }
            }
            return all;
        }

        void forget() {
            list.clear();
        }
    }

    /** The latest EXPLANATION: rows of what its LINES were when it was made. */
    private static final class Explanation {
        private final Nodes nodes;
        final int[] node;
        final int[] depth;
        final int[] owner;
        final boolean[] used;
        private final int[] partsDone;
        int size;
        boolean wouldGoOn;

        Explanation(Nodes nodes) {
            this.nodes = nodes;
            node = new int[MOST_LINES];
            depth = new int[MOST_LINES];
            owner = new int[MOST_LINES];
            used = new boolean[MOST_LINES];
            partsDone = new int[MOST_LINES];
        }

        boolean has(int k) {
            return k >= 0 && k < size;
        }

        void make(Node root) {
            forget();
            addLine(root.number, 0, NONE, root.holds);
            int open = 0;
            // Each step begins a LINE or ends one, so there are at most two steps for each.
            for (int step = 0; step < 2 * MOST_LINES && open != NONE && !wouldGoOn; step++) {
                open = partsDone[open] < nodes.at(node[open]).parts.size() ? beginPart(open) : owner[open];
            }
        }

        /** Adds the LINE of the next PART below an open LINE; answers which LINE is open then. */
        private int beginPart(int open) {
            if (size >= MOST_LINES) {
                wouldGoOn = true;
                return open;
            }
            Node whole = nodes.at(node[open]);
            int place = partsDone[open];
            partsDone[open]++;
            addLine(whole.numberOfPart(place), depth[open] + 1, open, used[open] && whole.uses(place));
            return size - 1;
        }

        private void addLine(int itsNode, int itsDepth, int itsOwner, boolean isUsed) {
            node[size] = itsNode;
            depth[size] = itsDepth;
            owner[size] = itsOwner;
            used[size] = isUsed;
            partsDone[size] = 0;
            size++;
        }

        /** THE TEXT of LINE k, which must be there. */
        StringBuilder write(int k, int language) {
            StringBuilder written = new StringBuilder();
            for (int i = 0; i < depth[k]; i++) {
                written.append("  ");
            }
            written.append(nodes.at(node[k]).sort.word(language));
            written.append(" #");
            written.append(node[k]);
            if (!used[k]) {
                written.append(" -");
            }
            return written;
        }

        void forget() {
            size = 0;
            wouldGoOn = false;
        }
    }

    /** The latest comparison: rows of the pairs at which two NODES PARTED, and why. */
    private static final class Comparison {
        private static final int SAME = 0, BY_SORT = 1, BY_COUNT = 2, BY_HOLDING = 3, BY_VALUE = 4;
        private static final int MOST_PAIRS = MOST_NODES * MOST_NODES;

        private final Nodes nodes;
        /** A pair as one number: the first NODE times MOST_NODES, and the second one. */
        final int[] pair;
        final byte[] why;
        int size;
        /** For each NODE the first one that it is LIKE, so that LIKE NODES have the same number here. */
        private final int[] firstLike;
        /** For each first NODE the set of the second ones with which it was a pair already. */
        private final long[] seen;
        /** The pairs still to be looked at, the next one last. */
        private final int[] waiting;
        private int waitingCount;

        Comparison(Nodes nodes) {
            this.nodes = nodes;
            pair = new int[MOST_PAIRS];
            why = new byte[MOST_PAIRS];
            firstLike = new int[MOST_NODES];
            seen = new long[MOST_NODES];
            // A NODE's PARTS come before it: no more than MOST_NODES NODES can have PARTS waiting at once.
            waiting = new int[MOST_NODES * MOST_PARTS];
        }

        boolean has(int k) {
            return k >= 0 && k < size;
        }

        void make(int a, int b) {
            forget();
            findLikes(Math.max(a, b));
            Arrays.fill(seen, 0L);
            waitingCount = 0;
            await(a, b);
            // Each pair lets its PARTS wait once at most.
            for (int step = 0; step <= MOST_PAIRS * MOST_PARTS && waitingCount > 0; step++) {
                waitingCount--;
                int next = waiting[waitingCount];
                look(nodes.at(next / MOST_NODES), nodes.at(next % MOST_NODES));
            }
        }

        private void findLikes(int last) {
            for (int number = 0; number <= last; number++) {
                firstLike[number] = findFirstLike(number);
            }
        }

        private int findFirstLike(int number) {
            Node node = nodes.at(number);
            for (int other = 0; other < number; other++) {
                if (difference(node, nodes.at(other)) == SAME && haveLikeParts(node, nodes.at(other))) {
                    return other;
                }
            }
            return number;
        }

        private boolean areLike(Node a, Node b) {
            return firstLike[a.number] == firstLike[b.number];
        }

        /** Of two NODES with as many PARTS. */
        private boolean haveLikeParts(Node a, Node b) {
            for (int i = 0; i < a.parts.size() && i < b.parts.size(); i++) {
                if (!areLike(a.parts.get(i), b.parts.get(i))) {
                    return false;
                }
            }
            return true;
        }

        /** The first thing that is another one in them, their PARTS' own things aside. */
        private int difference(Node a, Node b) {
            if (a.sort != b.sort) {
                return BY_SORT;
            }
            if (a.parts.size() != b.parts.size()) {
                return BY_COUNT;
            }
            if (a.holds != b.holds) {
                return BY_HOLDING;
            }
            return Doubles.haveSameBits(a.value, b.value) ? SAME : BY_VALUE;
        }

        private void look(Node a, Node b) {
            if (areLike(a, b) || Bits.has(seen[a.number], b.number)) {
                return;
            }
            seen[a.number] = Bits.with(seen[a.number], b.number);
            int reason = difference(a, b);
            if (reason == BY_SORT || reason == BY_COUNT || haveLikeParts(a, b)) {
                keep(a, b, reason);
            } else {
                awaitParts(a, b);
            }
        }

        private void awaitParts(Node a, Node b) {
            for (int i = a.parts.size() - 1; i >= 0; i--) {
                await(a.numberOfPart(i), b.numberOfPart(i));
            }
        }

        private void await(int a, int b) {
            if (waitingCount < waiting.length) {
                waiting[waitingCount] = a * MOST_NODES + b;
                waitingCount++;
            }
        }

        private void keep(Node a, Node b, int reason) {
            if (size < MOST_PAIRS) {
                pair[size] = a.number * MOST_NODES + b.number;
                why[size] = (byte) reason;
                size++;
            }
        }

        void forget() {
            size = 0;
        }
    }
}
