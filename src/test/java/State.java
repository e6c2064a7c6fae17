import java.util.ArrayList;
import java.util.List;
import java.util.function.Consumer;
import java.util.function.ToLongFunction;

/** All that can be asked of a vault, so that one can be held against another that was built in the same way. */
final class State {
    /** A scene takes fewer than 200 calls, and an object is promised for 512. */
    private static final int ASKED_OF_ONE_OBJECT = 300;

    private record Ask(String told, ToLongFunction<HouseholdVault> call) {}

    private final List<Ask> asks = new ArrayList<>();
    /** How many there are of what count tells; of each question its KIND and its ROSTER. */
    private final int[] counts = new int[6];
    private final int[] kinds, rosters;

    private State(HouseholdVault sample) {
        for (int what = 0; what < 6; what++) counts[what] = sample.count(what);
        kinds = new int[counts[0]];
        rosters = new int[counts[0]];
        for (int q = 0; q < counts[0]; q++) {
            kinds[q] = sample.of(q, 0);
            rosters[q] = sample.of(q, 1);
        }
    }

    /** What differs first between a vault on which one call more was made, and one without it; null: nothing. */
    static String firstDifference(Consumer<HouseholdVault> build, ToLongFunction<HouseholdVault> more) {
        List<Ask> asks = new State(Edges.built(build)).readings();
        for (int from = 0; from < asks.size(); from += ASKED_OF_ONE_OBJECT) {
            List<Ask> some = asks.subList(from, Math.min(asks.size(), from + ASKED_OF_ONE_OBJECT));
            String found = differenceIn(some, build, more);
            if (found != null) return found;
        }
        return differenceIn(new State(Edges.built(build)).nextOnes(), build, more);
    }

    private static String differenceIn(List<Ask> asks, Consumer<HouseholdVault> build,
            ToLongFunction<HouseholdVault> more) {
        HouseholdVault without = Edges.built(build);
        HouseholdVault with = Edges.built(build);
        more.applyAsLong(with);
        for (Ask ask : asks) {
            long was = ask.call.applyAsLong(without);
            long is = ask.call.applyAsLong(with);
            if (was != is) return ask.told + " answers " + is + " in place of " + was;
        }
        return null;
    }

    private void add(String told, ToLongFunction<HouseholdVault> call) {
        asks.add(new Ask(told, call));
    }

    /** All calls that change nothing. */
    private List<Ask> readings() {
        for (int n = 0; n < 6; n++) {
            int what = n;
            add("count(" + what + ")", x -> x.count(what));
        }
        readQuestions();
        readAnswers();
        readConditions();
        readTable();
        readRanks();
        readEditions();
        return asks;
    }

    /** The first few, and the last one. */
    private static int[] few(int count) {
        if (count <= 4) {
            int[] all = new int[count];
            for (int i = 0; i < count; i++) all[i] = i;
            return all;
        }
        return new int[] {0, 1, 2, count - 1};
    }

    private void readQuestions() {
        for (int n = 0; n < counts[0]; n++) {
            int q = n;
            for (int m = 0; m < 6; m++) {
                int what = m;
                add("of(" + q + ", " + what + ")", x -> x.of(q, what));
            }
            for (int m = 0; m < 8; m++) {
                int i = m;
                add("codeAt(" + q + ", " + i + ")", x -> x.codeAt(q, i));
            }
        }
    }

    private int[] personsFor(int q) {
        return rosters[q] == -1 ? new int[] {-1} : new int[] {0, 1, 2, 3, 4};
    }

    private void readAnswers() {
        for (int h : few(counts[1])) {
            for (int n = 0; n < counts[0]; n++) {
                int q = n;
                for (int person : personsFor(q)) {
                    String at = "(" + h + ", " + q + ", " + person + ")";
                    add("value" + at, x -> x.value(h, q, person));
                    add("reason" + at, x -> x.reason(h, q, person));
                }
            }
        }
    }

    private void readConditions() {
        for (int n = 0; n < counts[2]; n++) {
            int c = n;
            for (int h : few(counts[1])) {
                for (int person : new int[] {-1, 0, 1}) {
                    add("holds(" + c + ", " + h + ", " + person + ")", x -> x.holds(c, h, person));
                }
            }
        }
        add("against()", x -> x.against());
        for (int n = 0; n < 18; n++) {
            int k = n / 3;
            int what = n % 3;
            add("againstAt(" + k + ", " + what + ")", x -> x.againstAt(k, what));
        }
    }

    private void readTable() {
        for (int n = 0; n < counts[4] * counts[5]; n++) {
            int i = n / counts[5];
            int j = n % counts[5];
            for (int m = 0; m < 3; m++) {
                int what = m;
                add("cell(" + i + ", " + j + ", " + what + ")", x -> x.cell(i, j, what));
            }
            add("share(" + i + ", " + j + ")", x -> x.share(i, j));
        }
        add("follows()", x -> x.follows());
    }

    private void readRanks() {
        for (int n = 0; n < counts[0]; n++) {
            int q = n;
            for (int k : few(counts[1])) add("rank(" + q + ", " + k + ")", x -> x.rank(q, k));
            for (int c : few(counts[2])) add("part(" + q + ", " + c + ", 1, 2)", x -> x.part(q, c, 1, 2));
        }
        add("doubles()", x -> x.doubles());
        for (int n = 0; n < 8; n++) {
            int k = n / 2;
            int what = n % 2;
            add("doubleAt(" + k + ", " + what + ")", x -> x.doubleAt(k, what));
        }
    }

    private void readEditions() {
        for (int e : few(counts[3])) {
            for (int f : few(counts[3])) {
                add("changes(" + e + ", " + f + ")", x -> x.changes(e, f));
                for (int what = 0; what < 3; what++) {
                    int part = what;
                    add("changeAt(" + e + ", " + f + ", 1, " + part + ")", x -> x.changeAt(e, f, 1, part));
                }
            }
            for (int h : few(counts[1])) {
                for (int n = 0; n < counts[0]; n++) {
                    int q = n;
                    for (int person : personsFor(q)) {
                        String at = "(" + e + ", " + h + ", " + q + ", " + person + ")";
                        add("frozen" + at, x -> x.frozen(e, h, q, person));
                        add("frozenReason" + at, x -> x.frozenReason(e, h, q, person));
                    }
                }
            }
        }
    }

    /** Calls that do change something: what they answer tells of what cannot be read, as rows and weights. */
    private List<Ask> nextOnes() {
        for (int h : few(counts[1])) {
            for (int n = 0; n < counts[0]; n++) {
                int q = n;
                if (kinds[q] != 0 || rosters[q] != -1) continue;
                add("table(" + q + ", -1)", x -> x.table(q, -1));
                add("its weight at 0", x -> x.cell(0, 0, 1));
                add("its weight at 1", x -> x.cell(1, 0, 1));
            }
            add("household " + h + " leaves the tables", x -> x.weight(h, 0, 1));
        }
        for (int n = 0; n < counts[0]; n++) {
            int q = n;
            add("row(" + q + ", ..)", x -> x.row(q, -9, 9, 99));
            add("code(" + q + ", 98)", x -> x.code(q, 98));
            add("mark(" + q + ", true)", x -> x.mark(q, true));
        }
        add("merge(0)", x -> x.merge(0));
        add("ask(3, 0, 0)", x -> x.ask(3, 0, 0));
        add("household()", x -> x.household());
        add("question(2, -1)", x -> x.question(2, -1));
        add("freeze()", x -> x.freeze());
        return asks;
    }
}
