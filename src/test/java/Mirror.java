import java.math.BigInteger;
import java.util.ArrayList;
import java.util.Arrays;
import java.util.Comparator;
import java.util.HashMap;
import java.util.List;
import java.util.Map;

/**
 * The document a second time, written in another way: answers in maps, conditions asked one in another, lists
 * that are sorted, and cells that follow found by the ranks of equations. MirrorTest holds the class against it.
 */
final class Mirror {
    private static final int BAD = -1, KIND = -2, TWICE = -3, FULL = -4;

    record Place(int h, int q, int person) {}

    record Answer(int reason, long value) {}

    record Row(long low, long high, int c) {}

    record Condition(String name, int a, int b, long v) {}

    record Edition(Map<Place, Answer> answers, int households, int questions) {}

    private static final class Question {
        int kind, roster = -1, made, source, filter = -1;
        boolean marked;
        final List<Integer> codes = new ArrayList<>();
        final List<Row> rows = new ArrayList<>();
    }

    private final List<Question> questions = new ArrayList<>();
    private final List<Condition> conditions = new ArrayList<>();
    private final List<Edition> editions = new ArrayList<>();
    private final List<int[]> weights = new ArrayList<>();
    private Map<Place, Answer> answers = new HashMap<>();
    private final Map<Place, Answer> madeNow = new HashMap<>();
    private final Map<Place, Boolean> soNow = new HashMap<>();
    private int[][] counts, shares;
    private BigInteger[][] cellWeights;
    private boolean[][] held;
    private boolean byTwo;

    // ---- questions

    private boolean noQuestion(int q) {
        return q < 0 || q >= questions.size();
    }

    private boolean noCondition(int c) {
        return c < 0 || c >= conditions.size();
    }

    private int add(int kind, int roster, int made, int source) {
        if (questions.size() == 24) return FULL;
        Question fresh = new Question();
        fresh.kind = kind;
        fresh.roster = roster;
        fresh.made = made;
        fresh.source = source;
        questions.add(fresh);
        return questions.size() - 1;
    }

    int question(int kind, int roster) {
        if (kind < 0 || kind > 5 || roster < -1 || roster >= questions.size()) return BAD;
        if (roster >= 0 && (questions.get(roster).kind != 5 || kind == 5)) return KIND;
        return add(kind, roster, 0, -1);
    }

    int code(int q, int c) {
        if (noQuestion(q) || c != (byte) c) return BAD;
        Question asked = questions.get(q);
        if (asked.kind != 0 && asked.kind != 1 || asked.made != 0) return KIND;
        if (asked.codes.contains(c)) return TWICE;
        if (asked.codes.size() == 8) return FULL;
        asked.codes.add(c);
        return asked.codes.size();
    }

    int map(int q) {
        if (noQuestion(q)) return BAD;
        if (!List.of(0, 2, 3, 4).contains(questions.get(q).kind)) return KIND;
        return add(0, questions.get(q).roster, 1, q);
    }

    int row(int q, long low, long high, int c) {
        if (noQuestion(q) || low > high || c != (byte) c) return BAD;
        Question asked = questions.get(q);
        if (asked.made != 1) return KIND;
        if (asked.rows.size() == 8) return FULL;
        asked.rows.add(new Row(low, high, c));
        if (!asked.codes.contains(c)) asked.codes.add(c);
        return asked.rows.size();
    }

    int howMany(int roster, int condition) {
        if (noQuestion(roster) || noCondition(condition)) return BAD;
        if (questions.get(roster).kind != 5 || reach(condition) != roster) return KIND;
        return add(2, -1, 2, condition);
    }

    int sum(int q) {
        if (noQuestion(q)) return BAD;
        Question asked = questions.get(q);
        if (asked.roster < 0 || asked.kind != 2 && asked.kind != 3) return KIND;
        return add(asked.kind, -1, 3, q);
    }

    int of(int q, int what) {
        if (noQuestion(q) || what < 0 || what > 5) return BAD;
        Question x = questions.get(q);
        return new int[] {x.kind, x.roster, x.codes.size(), x.made, x.filter, x.marked ? 1 : 0}[what];
    }

    int codeAt(int q, int i) {
        if (noQuestion(q) || i < 0 || i >= questions.get(q).codes.size()) return 1000;
        return questions.get(q).codes.get(i);
    }

    // ---- answers

    int household() {
        if (weights.size() == 40) return FULL;
        weights.add(new int[] {1, 1});
        return weights.size() - 1;
    }

    private static Answer in(Map<Place, Answer> all, int kind, Place at) {
        return all.getOrDefault(at, new Answer(kind == 5 ? 0 : 1, 0));
    }

    private int persons(Map<Place, Answer> all, int h, int roster) {
        return (int) in(all, 5, new Place(h, roster, -1)).value;
    }

    private boolean isThere(Map<Place, Answer> all, int h, int reach, int person) {
        return reach == -1 ? person == -1 : person >= 0 && person < persons(all, h, reach);
    }

    private boolean noPlace(int h, int q, int person) {
        if (h < 0 || h >= weights.size() || noQuestion(q)) return true;
        return !isThere(answers, h, questions.get(q).roster, person);
    }

    private static boolean fits(Question asked, long v) {
        return switch (asked.kind) {
            case 0 -> v == (byte) v && asked.codes.contains((int) v);
            case 1 -> v >>> asked.codes.size() == 0;
            case 2 -> v >= Integer.MIN_VALUE && v <= Integer.MAX_VALUE;
            case 3 -> BigInteger.valueOf(v).abs().compareTo(BigInteger.TEN.pow(15)) <= 0;
            case 4 -> v >= -30000 && v <= 30000;
            default -> v >= 0 && v <= 5;
        };
    }

    int answer(int h, int q, int person, long v) {
        if (noPlace(h, q, person)) return BAD;
        Question asked = questions.get(q);
        if (asked.made != 0) return KIND;
        if (!fits(asked, v)) return BAD;
        answers.put(new Place(h, q, person), new Answer(0, v));
        if (asked.kind == 5) {
            answers.keySet().removeIf(p -> p.h == h && questions.get(p.q).roster == q && p.person >= v);
        }
        return 1;
    }

    int missing(int h, int q, int person, int reason) {
        if (noPlace(h, q, person) || reason < 1 || reason > 5) return BAD;
        if (questions.get(q).made != 0 || questions.get(q).kind == 5) return KIND;
        answers.put(new Place(h, q, person), new Answer(reason, 0));
        return 1;
    }

    long value(int h, int q, int person) {
        forget();
        return noPlace(h, q, person) ? 0 : told(h, q, person).value;
    }

    int reason(int h, int q, int person) {
        forget();
        return noPlace(h, q, person) ? BAD : told(h, q, person).reason;
    }

    private void forget() {
        madeNow.clear();
        soNow.clear();
    }

    private Answer told(int h, int q, int person) {
        Place at = new Place(h, q, person);
        Question asked = questions.get(q);
        if (asked.made == 0) return in(answers, asked.kind, at);
        Answer known = madeNow.get(at);
        if (known == null) {
            known = asked.made == 1 ? mapped(h, asked, person) : asked.made == 2 ? many(h, asked) : summed(h, asked);
            madeNow.put(at, known);
        }
        return known;
    }

    private Answer mapped(int h, Question asked, int person) {
        Answer from = told(h, asked.source, person);
        if (from.reason != 0) return from;
        for (Row row : asked.rows) {
            if (from.value >= row.low && from.value <= row.high) return new Answer(0, row.c);
        }
        return new Answer(4, 0);
    }

    private Answer many(int h, Question asked) {
        return new Answer(0, howManyAre(asked.source, h));
    }

    private Answer summed(int h, Question asked) {
        BigInteger all = BigInteger.ZERO;
        int found = 0;
        for (int p = 0; p < persons(answers, h, questions.get(asked.source).roster); p++) {
            Answer one = told(h, asked.source, p);
            if (one.reason != 0) continue;
            found++;
            all = all.add(BigInteger.valueOf(one.value));
        }
        if (found == 0 || all.bitLength() > (asked.kind == 2 ? 31 : 63)) return new Answer(5, 0);
        return new Answer(0, all.longValue());
    }

    // ---- conditions

    private int reach(int c) {
        Condition x = conditions.get(c);
        switch (x.name) {
            case "both": case "either": return Math.max(reach(x.a), reach(x.b));
            case "not": return reach(x.a);
            case "some": return -1;
            default: return questions.get(x.a).roster;
        }
    }

    private int size(int c) {
        Condition x = conditions.get(c);
        switch (x.name) {
            case "both": case "either": return 1 + size(x.a) + size(x.b);
            case "not": case "some": return 1 + size(x.a);
            default: return 1;
        }
    }

    private boolean namesOnlyElder(int c, int q) {
        Condition x = conditions.get(c);
        switch (x.name) {
            case "both": case "either": return namesOnlyElder(x.a, q) && namesOnlyElder(x.b, q);
            case "not": case "some": return namesOnlyElder(x.a, q);
            default: return x.a < q;
        }
    }

    private int howManyAre(int c, int h) {
        int all = 0;
        for (int p = 0; p < persons(answers, h, reach(c)); p++) {
            if (isSo(c, h, p)) all++;
        }
        return all;
    }

    private boolean isSo(int c, int h, int person) {
        int at = reach(c) == -1 ? -1 : person;
        Boolean known = soNow.get(new Place(h, c, at));
        if (known == null) {
            known = reckon(conditions.get(c), h, at);
            soNow.put(new Place(h, c, at), known);
        }
        return known;
    }

    private boolean reckon(Condition x, int h, int person) {
        switch (x.name) {
            case "both": return isSo(x.a, h, person) && isSo(x.b, h, person);
            case "either": return isSo(x.a, h, person) || isSo(x.b, h, person);
            case "not": return !isSo(x.a, h, person);
            case "some": return howManyAre(x.a, h) >= x.v;
            default:
        }
        Answer it = told(h, x.a, person);
        if (x.name.equals("lacks")) return it.reason != 0;
        if (it.reason != 0) return false;
        if (x.name.equals("below")) return it.value < x.v;
        if (x.name.equals("above")) return it.value > x.v;
        return questions.get(x.a).kind == 1 ? BigInteger.valueOf(it.value).testBit((int) x.v) : it.value == x.v;
    }

    private int add(Condition fresh) {
        if (conditions.size() == 60) return FULL;
        conditions.add(fresh);
        if (size(conditions.size() - 1) <= 30) return conditions.size() - 1;
        conditions.remove(conditions.size() - 1);
        return FULL;
    }

    int ask(int code, int q, long v) {
        if (code < 0 || code > 3 || noQuestion(q)) return BAD;
        int kind = questions.get(q).kind;
        if (code == 0 && kind == 1 && (v < 0 || v > 7)) return BAD;
        if (kind < 2 && (code == 1 || code == 2)) return KIND;
        return add(new Condition(new String[] {"is", "below", "above", "lacks"}[code], q, -1, v));
    }

    int logic(int way, int a, int b) {
        if (way < 0 || way > 2 || noCondition(a) || way != 2 && noCondition(b)) return BAD;
        if (way == 2) return add(new Condition("not", a, -1, 0));
        if (reach(a) >= 0 && reach(b) >= 0 && reach(a) != reach(b)) return KIND;
        return add(new Condition(way == 0 ? "both" : "either", a, b, 0));
    }

    int some(int a, int n) {
        if (noCondition(a) || n < 0 || n > 5) return BAD;
        if (reach(a) == -1) return KIND;
        return add(new Condition("some", a, -1, n));
    }

    int holds(int c, int h, int person) {
        forget();
        if (noCondition(c) || h < 0 || h >= weights.size() || !isThere(answers, h, reach(c), person)) return BAD;
        return isSo(c, h, person) ? 1 : 0;
    }

    int filter(int q, int c) {
        if (noQuestion(q) || c != -1 && noCondition(c)) return BAD;
        Question asked = questions.get(q);
        if (asked.made != 0) return KIND;
        if (c != -1 && reach(c) != -1 && reach(c) != asked.roster) return KIND;
        if (c != -1 && !namesOnlyElder(c, q)) return KIND;
        asked.filter = c;
        return 1;
    }

    private List<int[]> allAgainst() {
        forget();
        List<int[]> all = new ArrayList<>();
        for (int h = 0; h < weights.size(); h++) {
            for (int q = 0; q < questions.size(); q++) {
                Question asked = questions.get(q);
                for (int p = -1; p < 5; p++) {
                    if (asked.filter == -1 || !isThere(answers, h, asked.roster, p)) continue;
                    Answer it = told(h, q, p);
                    boolean given = it.reason == 0 && (asked.kind != 5 || it.value != 0);
                    if (given && !isSo(asked.filter, h, p)) all.add(new int[] {h, q, p});
                }
            }
        }
        return all;
    }

    int against() {
        return allAgainst().size();
    }

    private static int pick(List<int[]> all, int k, int what, int refusal) {
        if (k < 0 || k >= all.size() || what < 0 || what >= all.get(k).length) return refusal;
        return all.get(k)[what];
    }

    int againstAt(int k, int what) {
        return pick(allAgainst(), k, what, -2);
    }

    // ---- weights, tables

    int weight(int h, int up, int low) {
        if (h < 0 || h >= weights.size() || up < 0 || up > 1000 || low < 1 || low > 10) return BAD;
        weights.set(h, new int[] {up, low});
        return 1;
    }

    private int line(int h, int q) {
        if (q == -1) return 0;
        Answer it = told(h, q, -1);
        List<Integer> codes = questions.get(q).codes;
        return it.reason != 0 ? codes.size() : codes.indexOf((int) it.value);
    }

    int table(int q, int r) {
        forget();
        if (noQuestion(q) || r != -1 && noQuestion(r)) return BAD;
        for (int one : new int[] {q, r == -1 ? q : r}) {
            if (questions.get(one).kind != 0 || questions.get(one).roster != -1) return KIND;
        }
        byTwo = r != -1;
        int rows = questions.get(q).codes.size() + 1;
        int columns = byTwo ? questions.get(r).codes.size() + 1 : 1;
        counts = new int[rows][columns];
        shares = new int[rows][columns];
        held = new boolean[rows][columns];
        cellWeights = new BigInteger[rows][columns];
        for (BigInteger[] row : cellWeights) Arrays.fill(row, BigInteger.ZERO);
        for (int h = 0; h < weights.size(); h++) {
            int i = line(h, q);
            int j = line(h, r);
            counts[i][j]++;
            int[] w = weights.get(h);
            cellWeights[i][j] = cellWeights[i][j].add(BigInteger.valueOf(2520L * w[0] / w[1]));
        }
        return rows * columns;
    }

    private boolean noCell(int i, int j) {
        return counts == null || i < 0 || i >= counts.length || j < 0 || j >= counts[0].length;
    }

    long cell(int i, int j, int what) {
        if (noCell(i, j) || what < 0 || what > 2) return BAD;
        return what == 0 ? counts[i][j] : what == 1 ? cellWeights[i][j].longValue() : held[i][j] ? 1 : 0;
    }

    int shares(int n) {
        if (counts == null || n < 0 || n > 1000000) return BAD;
        BigInteger all = BigInteger.ZERO;
        for (BigInteger[] row : cellWeights) for (BigInteger w : row) all = all.add(w);
        for (int[] row : shares) Arrays.fill(row, 0);
        if (all.signum() == 0) return 0;
        List<int[]> cells = new ArrayList<>();
        List<BigInteger> rests = new ArrayList<>();
        int left = n;
        for (int i = 0; i < counts.length; i++) {
            for (int j = 0; j < counts[0].length; j++) {
                BigInteger[] cut = cellWeights[i][j].multiply(BigInteger.valueOf(n)).divideAndRemainder(all);
                shares[i][j] = cut[0].intValue();
                left -= shares[i][j];
                cells.add(new int[] {i, j, cells.size()});
                rests.add(cut[1]);
            }
        }
        cells.sort(Comparator.comparing((int[] c) -> rests.get(c[2])).reversed());
        for (int k = 0; k < left; k++) shares[cells.get(k)[0]][cells.get(k)[1]]++;
        return 1;
    }

    int share(int i, int j) {
        return noCell(i, j) ? BAD : shares[i][j];
    }

    int shown(int threshold) {
        if (counts == null || threshold < 1 || threshold > 1000) return BAD;
        for (int i = 0; i < counts.length; i++) {
            for (int j = 0; j < counts[0].length; j++) held[i][j] = counts[i][j] > 0 && counts[i][j] < threshold;
        }
        for (int[] bare = firstBare(); bare != null; bare = firstBare()) {
            int[] open = cover(bare);
            if (open == null) break;
            held[open[0]][open[1]] = true;
        }
        int all = 0;
        for (boolean[] row : held) for (boolean one : row) all += one ? 1 : 0;
        return all;
    }

    private int[] cover(int[] bare) {
        int[][] best = new int[3][];
        for (int i = 0; i < counts.length; i++) {
            for (int j = 0; j < counts[0].length; j++) {
                if (held[i][j]) continue;
                boolean[] in = {i == bare[0], j == bare[1], true};
                for (int w = 0; w < 3; w++) {
                    boolean less = best[w] == null || counts[i][j] < counts[best[w][0]][best[w][1]];
                    if (in[w] && less) best[w] = new int[] {i, j};
                }
            }
        }
        return best[0] != null ? best[0] : best[1] != null ? best[1] : best[2];
    }

    int follows() {
        if (counts == null) return BAD;
        int[] bare = firstBare();
        return bare == null ? 0 : 1 + bare[0] * counts[0].length + bare[1];
    }

    /** A cell follows, if the equations of the lines (cells held back as unknowns) already tell it alone. */
    private int[] firstBare() {
        List<int[]> unknown = new ArrayList<>();
        for (int i = 0; i < counts.length; i++) {
            for (int j = 0; j < counts[0].length; j++) if (held[i][j]) unknown.add(new int[] {i, j});
        }
        List<double[]> lines = new ArrayList<>();
        for (int l = 0; l < counts.length + counts[0].length; l++) {
            double[] line = new double[unknown.size()];
            for (int u = 0; u < line.length; u++) {
                int[] c = unknown.get(u);
                line[u] = !byTwo || (l < counts.length ? c[0] == l : c[1] == l - counts.length) ? 1 : 0;
            }
            lines.add(line);
        }
        List<double[]> base = reduced(lines);
        for (int u = 0; u < unknown.size(); u++) {
            double[] alone = new double[unknown.size()];
            alone[u] = 1;
            List<double[]> more = new ArrayList<>(base);
            more.add(alone);
            if (reduced(more).size() == base.size()) return unknown.get(u);
        }
        return null;
    }

    /** Gauss: these rows hold 0, 1, -1 and small whole numbers alone, so that doubles are exact enough. */
    private static List<double[]> reduced(List<double[]> rows) {
        List<double[]> left = new ArrayList<>();
        for (double[] row : rows) left.add(row.clone());
        List<double[]> done = new ArrayList<>();
        int width = rows.isEmpty() ? 0 : rows.get(0).length;
        for (int at = 0; at < width; at++) {
            double[] lead = null;
            for (double[] row : left) if (lead == null && Math.abs(row[at]) > 1e-6) lead = row;
            if (lead == null) continue;
            left.remove(lead);
            done.add(lead);
            for (double[] row : left) {
                double times = row[at] / lead[at];
                if (times == 0) continue;
                for (int k = at; k < width; k++) row[k] -= times * lead[k];
            }
        }
        return done;
    }

    // ---- ranks, doubles, editions

    int rank(int q, int k) {
        forget();
        if (noQuestion(q) || k < 0 || k >= weights.size()) return BAD;
        if (questions.get(q).roster != -1 || questions.get(q).kind == 1) return KIND;
        List<Integer> all = new ArrayList<>();
        for (int h = 0; h < weights.size(); h++) all.add(h);
        all.sort(Comparator.comparing((Integer h) -> told(h, q, -1).reason != 0)
            .thenComparing(h -> height(h, q)).thenComparing(h -> h));
        return all.get(k);
    }

    /** A value, or, of a CODE, its number: how many other CODES the question had ahead of it. */
    private long height(int h, int q) {
        long value = told(h, q, -1).value;
        if (questions.get(q).kind != 0) return value;
        long number = 0;
        while (number < of(q, 2) && codeAt(q, (int) number) != value) number++;
        return number;
    }

    long part(int q, int c, int up, int low) {
        forget();
        if (noQuestion(q) || noCondition(c) || low < 1 || low > 1000 || up < 0 || up > low) return 0;
        Question asked = questions.get(q);
        if (asked.kind < 2 || asked.kind == 5 || asked.roster != -1 || reach(c) != -1) return 0;
        List<Long> values = new ArrayList<>();
        for (int h = 0; h < weights.size(); h++) {
            if (isSo(c, h, -1) && told(h, q, -1).reason == 0) values.add(told(h, q, -1).value);
        }
        values.sort(null);
        return values.isEmpty() ? 0 : values.get((values.size() - 1) * up / low);
    }

    int mark(int q, boolean on) {
        if (noQuestion(q)) return BAD;
        if (questions.get(q).roster != -1 || questions.get(q).made != 0) return KIND;
        int was = questions.get(q).marked ? 1 : 0;
        questions.get(q).marked = on;
        return was;
    }

    private String marked(int h) {
        StringBuilder all = new StringBuilder();
        for (int q = 0; q < questions.size(); q++) {
            if (!questions.get(q).marked) continue;
            all.append(told(h, q, -1));
            for (int in = 0; in < questions.size(); in++) {
                if (questions.get(in).roster != q || questions.get(in).made != 0) continue;
                for (int p = 0; p < persons(answers, h, q); p++) all.append(told(h, in, p));
            }
        }
        return all.toString();
    }

    private List<int[]> allDoubles() {
        forget();
        List<int[]> all = new ArrayList<>();
        for (int h = 0; h < weights.size(); h++) {
            String one = marked(h);
            for (int other = h + 1; other < weights.size() && !one.isEmpty(); other++) {
                if (one.equals(marked(other))) all.add(new int[] {h, other});
            }
        }
        return all;
    }

    int doubles() {
        return allDoubles().size();
    }

    int doubleAt(int k, int what) {
        return pick(allDoubles(), k, what, BAD);
    }

    int freeze() {
        if (editions.size() == 6) return FULL;
        editions.add(new Edition(new HashMap<>(answers), weights.size(), questions.size()));
        return editions.size() - 1;
    }

    private boolean noEdition(int e) {
        return e < 0 || e >= editions.size();
    }

    private Answer then(int e, int h, int q, int person) {
        if (noEdition(e)) return null;
        Edition edition = editions.get(e);
        if (h < 0 || h >= edition.households || q < 0 || q >= edition.questions) return null;
        Question asked = questions.get(q);
        if (asked.made != 0 || !isThere(edition.answers, h, asked.roster, person)) return null;
        return in(edition.answers, asked.kind, new Place(h, q, person));
    }

    long frozen(int e, int h, int q, int person) {
        Answer it = then(e, h, q, person);
        return it == null ? 0 : it.value;
    }

    int frozenReason(int e, int h, int q, int person) {
        Answer it = then(e, h, q, person);
        return it == null ? BAD : it.reason;
    }

    private List<int[]> allChanges(int e, int f) {
        List<int[]> all = new ArrayList<>();
        for (int h = 0; h < Math.min(editions.get(e).households, editions.get(f).households); h++) {
            for (int q = 0; q < Math.min(editions.get(e).questions, editions.get(f).questions); q++) {
                for (int p = -1; p < 5; p++) {
                    Answer one = then(e, h, q, p);
                    Answer other = then(f, h, q, p);
                    if (one == null ? other != null : !one.equals(other)) all.add(new int[] {h, q, p});
                }
            }
        }
        return all;
    }

    int changes(int e, int f) {
        return noEdition(e) || noEdition(f) ? BAD : allChanges(e, f).size();
    }

    int changeAt(int e, int f, int k, int what) {
        return noEdition(e) || noEdition(f) ? -2 : pick(allChanges(e, f), k, what, -2);
    }

    int merge(int e) {
        if (noEdition(e)) return BAD;
        Map<Place, Answer> back = new HashMap<>();
        for (Place at : editions.get(e).answers.keySet()) {
            Answer was = then(e, at.h, at.q, at.person);
            if (was == null || was.reason != 0 || noPlace(at.h, at.q, at.person)) continue;
            if (told(at.h, at.q, at.person).reason != 0) back.put(at, was);
        }
        answers.putAll(back);
        return back.size();
    }

    int count(int what) {
        if (what < 0 || what > 5) return BAD;
        int rows = counts == null ? 0 : counts.length;
        int columns = counts == null ? 0 : counts[0].length;
        return new int[] {questions.size(), weights.size(), conditions.size(), editions.size(), rows, columns}[what];
    }
}
