import java.util.ArrayList;
import java.util.LinkedHashMap;
import java.util.List;
import java.util.Map;
import java.util.TreeSet;

/** The document once more, written plainly with the Java library: what TracedSums must answer. */
final class Model {
    static final int NONE = -1, UNKNOWN = -101, OUTSIDE = -102, FULL = -103, STATE = -104;
    private static final String[][] WORDS = {
        {"given", "all", "some", "times", "best", "lift", "norm", "share"},
        {"wert", "alle", "einige", "mal", "bestes", "faktor", "laenge", "anteil"}
    };

    private static final class Entry {
        int sort;
        int need;
        int length;
        double told;
        boolean toldHolds;
        final List<Integer> parts = new ArrayList<>();
    }

    private record Line(int node, int depth, boolean used, int owner) {
    }

    private record Pair(int first, int second) {
    }

    private final List<Entry> entries = new ArrayList<>();
    private final List<Line> lines = new ArrayList<>();
    private boolean more;
    private final Map<Pair, Integer> reasons = new LinkedHashMap<>();
    private int language;
    /** What a NODE's VALUE is, NaN if it does not HOLD. */
    private double[] values = new double[0];

    private boolean has(int node) {
        return node >= 0 && node < entries.size();
    }

    private void settle() {
        values = new double[entries.size()];
        for (int i = 0; i < values.length; i++) {
            values[i] = reckon(entries.get(i), false);
        }
    }

    private boolean holdsAt(int node) {
        return !Double.isNaN(values[node]);
    }

    private double reckon(Entry e, boolean turned) {
        List<Integer> order = new ArrayList<>(e.parts);
        if (turned) {
            java.util.Collections.reverse(order);
        }
        switch (e.sort) {
            case 0:
                return e.toldHolds ? e.told : Double.NaN;
            case 1: {
                double sum = 0.0;
                for (int part : order) {
                    sum += values[part];
                }
                return sum;
            }
            case 2: {
                double sum = 0.0;
                int count = 0;
                for (int part : order) {
                    if (holdsAt(part)) {
                        sum += values[part];
                        count++;
                    }
                }
                return count >= e.need ? sum : Double.NaN;
            }
            case 3: {
                double product = 1.0;
                for (int part : order) {
                    product *= values[part];
                }
                return product;
            }
            case 4: {
                int place = winnerPlace(e);
                return place < 0 ? Double.NaN : values[e.parts.get(place)];
            }
            case 5:
                return values[e.parts.get(0)] * e.told;
            case 6:
                return unpacked(packedOf(e.length));
            default:
                return e.parts.size() == 2 ? values[e.parts.get(0)] / values[e.parts.get(1)] : Double.NaN;
        }
    }

    private int winnerPlace(Entry e) {
        int place = -1;
        for (int i = 0; i < e.parts.size(); i++) {
            double value = values[e.parts.get(i)];
            if (!Double.isNaN(value) && (place < 0 || value > values[e.parts.get(place)])) {
                place = i;
            }
        }
        return place;
    }

    private static int packedOf(int m) {
        if (m < 8) {
            return m;
        }
        String binary = Integer.toBinaryString(m);
        return 8 * (binary.length() - 3) + Integer.parseInt(binary.substring(1, 4), 2);
    }

    private static int unpacked(int x) {
        return x < 8 ? x : (int) ((8 + x % 8) * Math.pow(2, x / 8 - 1));
    }

    private int take(Entry e) {
        entries.add(e);
        settle();
        return entries.size() - 1;
    }

    int given(long bits, boolean holds) {
        if (Double.isNaN(Double.longBitsToDouble(bits))) {
            return OUTSIDE;
        }
        if (entries.size() == 60) {
            return FULL;
        }
        Entry e = new Entry();
        e.told = Double.longBitsToDouble(bits);
        e.toldHolds = holds;
        return take(e);
    }

    int node(int sort, int need) {
        if (!List.of(1, 2, 3, 4, 7).contains(sort) || sort == 2 && (need < 1 || need > 6)) {
            return OUTSIDE;
        }
        if (entries.size() == 60) {
            return FULL;
        }
        Entry e = new Entry();
        e.sort = sort;
        e.need = need;
        return take(e);
    }

    int lift(int part, long bits) {
        if (!has(part)) {
            return UNKNOWN;
        }
        if (Double.isNaN(Double.longBitsToDouble(bits))) {
            return OUTSIDE;
        }
        if (entries.size() == 60) {
            return FULL;
        }
        Entry e = new Entry();
        e.sort = 5;
        e.told = Double.longBitsToDouble(bits);
        e.parts.add(part);
        return take(e);
    }

    int norm(int length) {
        if (length < 0) {
            return OUTSIDE;
        }
        if (entries.size() == 60) {
            return FULL;
        }
        Entry e = new Entry();
        e.sort = 6;
        e.length = length;
        return take(e);
    }

    int part(int node, int part) {
        if (!has(node) || !has(part)) {
            return UNKNOWN;
        }
        Entry e = entries.get(node);
        if (e.sort == 0 || e.sort == 5 || e.sort == 6) {
            return STATE;
        }
        if (part >= node) {
            return OUTSIDE;
        }
        if (e.parts.size() == 6) {
            return FULL;
        }
        e.parts.add(part);
        settle();
        return e.parts.size();
    }

    int holds(int node, boolean does) {
        if (!has(node)) {
            return UNKNOWN;
        }
        Entry e = entries.get(node);
        if (e.sort != 0) {
            return STATE;
        }
        int did = e.toldHolds ? 1 : 0;
        e.toldHolds = does;
        settle();
        return did;
    }

    private double plainValue(int node) {
        return holdsAt(node) ? values[node] : 0.0;
    }

    double value(int node) {
        if (!has(node)) {
            throw new ArrayIndexOutOfBoundsException();
        }
        return plainValue(node);
    }

    double factor(int node) {
        if (!has(node)) {
            throw new ArrayIndexOutOfBoundsException();
        }
        if (entries.get(node).sort != 5) {
            throw new ClassCastException();
        }
        return entries.get(node).told;
    }

    int packed(int node, int what) {
        if (!has(node)) {
            throw new ArrayIndexOutOfBoundsException();
        }
        if (entries.get(node).sort != 6) {
            throw new ClassCastException();
        }
        int length = entries.get(node).length;
        return what == 0 ? length : what == 1 ? packedOf(length) : unpacked(packedOf(length));
    }

    int told(int node, int what) {
        if (!has(node)) {
            return UNKNOWN;
        }
        Entry e = entries.get(node);
        if (what >= 10 && what <= 15) {
            return what - 10 < e.parts.size() ? e.parts.get(what - 10) : NONE;
        }
        switch (what) {
            case 0:
                return e.sort;
            case 1:
                return holdsAt(node) ? 1 : 0;
            case 2:
                return e.parts.size();
            case 3:
                return e.sort != 4 ? OUTSIDE : holdsAt(node) ? e.parts.get(winnerPlace(e)) : NONE;
            case 4:
                return holdsAt(node) ? NONE : cause(node);
            case 5:
                return inputs(node).size();
            default:
                return OUTSIDE;
        }
    }

    private int cause(int node) {
        for (int part : entries.get(node).parts) {
            if (!holdsAt(part)) {
                return cause(part);
            }
        }
        return node;
    }

    private boolean partUsed(Entry e, int place) {
        if (e.sort == 2) {
            return holdsAt(e.parts.get(place));
        }
        return e.sort != 4 || place == winnerPlace(e);
    }

    private List<Integer> inputs(int node) {
        TreeSet<Integer> used = new TreeSet<>();
        if (holdsAt(node)) {
            gather(node, used);
        }
        List<Integer> inputs = new ArrayList<>();
        for (int n : used) {
            if (entries.get(n).sort == 0 || entries.get(n).sort == 6) {
                inputs.add(n);
            }
        }
        return inputs;
    }

    private void gather(int node, TreeSet<Integer> used) {
        if (!used.add(node)) {
            return;
        }
        Entry e = entries.get(node);
        for (int i = 0; i < e.parts.size(); i++) {
            if (partUsed(e, i)) {
                gather(e.parts.get(i), used);
            }
        }
    }

    int input(int node, int k) {
        if (!has(node)) {
            return UNKNOWN;
        }
        List<Integer> inputs = inputs(node);
        return k >= 0 && k < inputs.size() ? inputs.get(k) : NONE;
    }

    int turned(int node) {
        if (!has(node)) {
            return UNKNOWN;
        }
        Entry e = entries.get(node);
        if (e.sort < 1 || e.sort > 3) {
            return STATE;
        }
        double other = reckon(e, true);
        return bits(plainValue(node)) == bits(Double.isNaN(other) ? 0.0 : other) ? 1 : 0;
    }

    private static long bits(double value) {
        return Double.doubleToRawLongBits(value);
    }

    int explain(int node) {
        if (!has(node)) {
            return UNKNOWN;
        }
        lines.clear();
        more = false;
        write(node, 0, holdsAt(node), NONE);
        return lines.size();
    }

    private void write(int node, int depth, boolean used, int owner) {
        if (lines.size() == 200) {
            more = true;
            return;
        }
        int line = lines.size();
        lines.add(new Line(node, depth, used, owner));
        Entry e = entries.get(node);
        for (int i = 0; i < e.parts.size() && !more; i++) {
            write(e.parts.get(i), depth + 1, used && partUsed(e, i), line);
        }
    }

    private String textOf(int k) {
        Line line = lines.get(k);
        return "  ".repeat(line.depth) + WORDS[language][entries.get(line.node).sort] + " #" + line.node
            + (line.used ? "" : " -");
    }

    int line(int k, int what) {
        if (k < 0 || k >= lines.size()) {
            return UNKNOWN;
        }
        Line line = lines.get(k);
        switch (what) {
            case 0:
                return line.node;
            case 1:
                return line.depth;
            case 2:
                return line.used ? 1 : 0;
            case 3:
                return line.owner;
            case 4:
                return textOf(k).length();
            default:
                return OUTSIDE;
        }
    }

    int text(int k, int i) {
        if (k < 0 || k >= lines.size() || i < 0 || i >= textOf(k).length()) {
            throw new ArrayIndexOutOfBoundsException();
        }
        return textOf(k).charAt(i);
    }

    int language(int l) {
        if (l != 0 && l != 1) {
            return OUTSIDE;
        }
        int was = language;
        language = l;
        return was;
    }

    int compare(int a, int b) {
        if (!has(a) || !has(b)) {
            return UNKNOWN;
        }
        reasons.clear();
        like.clear();
        looked.clear();
        part(new Pair(a, b));
        like.clear();
        return reasons.size();
    }

    private final Map<Pair, Boolean> like = new LinkedHashMap<>();
    private final java.util.Set<Pair> looked = new java.util.HashSet<>();

    private boolean isLike(int a, int b) {
        Pair pair = new Pair(a, b);
        Boolean known = like.get(pair);
        if (known == null) {
            known = reason(a, b) == 0 && likeParts(a, b);
            like.put(pair, known);
        }
        return known;
    }

    private boolean likeParts(int a, int b) {
        boolean all = true;
        for (int i = 0; i < entries.get(a).parts.size(); i++) {
            all &= isLike(entries.get(a).parts.get(i), entries.get(b).parts.get(i));
        }
        return all;
    }

    private int reason(int a, int b) {
        if (entries.get(a).sort != entries.get(b).sort) {
            return 1;
        }
        if (entries.get(a).parts.size() != entries.get(b).parts.size()) {
            return 2;
        }
        if (holdsAt(a) != holdsAt(b)) {
            return 3;
        }
        return bits(plainValue(a)) == bits(plainValue(b)) ? 0 : 4;
    }

    private void part(Pair pair) {
        int a = pair.first;
        int b = pair.second;
        if (!looked.add(pair) || isLike(a, b)) {
            return;
        }
        int reason = reason(a, b);
        if (reason == 1 || reason == 2 || likeParts(a, b)) {
            reasons.put(pair, reason);
            return;
        }
        for (int i = 0; i < entries.get(a).parts.size(); i++) {
            part(new Pair(entries.get(a).parts.get(i), entries.get(b).parts.get(i)));
        }
    }

    int parts(int k, int what) {
        if (k < 0 || k >= reasons.size()) {
            return UNKNOWN;
        }
        Pair pair = new ArrayList<>(reasons.keySet()).get(k);
        switch (what) {
            case 0:
                return pair.first;
            case 1:
                return pair.second;
            case 2:
                return reasons.get(pair);
            default:
                return OUTSIDE;
        }
    }

    int about(int what) {
        switch (what) {
            case 0:
                return entries.size();
            case 1:
                return lines.size();
            case 2:
                return more ? 1 : 0;
            case 3:
                return reasons.size();
            default:
                return OUTSIDE;
        }
    }

    int clear() {
        int count = entries.size();
        entries.clear();
        lines.clear();
        reasons.clear();
        more = false;
        language = 0;
        settle();
        return count;
    }
}
