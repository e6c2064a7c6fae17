import java.util.Arrays;

/** A vault of answers that households gave: see the document for what each call promises. */
public final class HouseholdVault {
    public static final int BAD = -1, KIND = -2, TWICE = -3, FULL = -4;

    private static final int CODE = 0, CODES = 1, WHOLE = 2, CENTS = 3, DAY = 4, ROSTER = 5;
    private static final int TOLD = 0, MAP = 1, HOW_MANY = 2, SUM = 3;
    private static final int IS = 0, BELOW = 1, ABOVE = 2, LACKS = 3;
    private static final int BOTH = 4, EITHER = 5, NOT = 6, SOME = 7;

    private static final int TOP = -1, NONE = -1;
    private static final int NO_CODE = 1000, NO_ENTRY = -2;
    private static final int MOST_QUESTIONS = 24, MOST_HOUSEHOLDS = 40, MOST_CONDITIONS = 60, MOST_EDITIONS = 6;
    private static final int MOST_CODES = 8, MOST_ROWS = 8, MOST_PERSONS = 5, MOST_SIZE = 30;
    private static final int LEAST_CODE = -128, GREATEST_CODE = 127;
    private static final int GREATEST_DAY = 30000;
    private static final long GREATEST_CENTS = 1000000000000000L;
    private static final int FIRST_REASON = 1, LAST_REASON = 5, IN_NO_ROW = 4, NO_SUM = 5;
    private static final int GREATEST_UP = 1000, GREATEST_LOW = 10, GREATEST_PART_LOW = 1000;
    private static final int GREATEST_SHARED = 1000000, GREATEST_THRESHOLD = 1000;
    /** Divisible by every low part that a weight may have, so that weights stay whole. */
    private static final int UNIT = 2520;
    private static final int MOST_LINES = MOST_CODES + 1, MOST_CELLS = MOST_LINES * MOST_LINES;

    private final Form form;
    private final Household[] households;
    private int householdCount;
    private final Edition[] editions;
    private int editionCount;
    private final Table table;
    private final Finder finder;
    private final int[] rising;

    public HouseholdVault() {
        form = new Form();
        households = new Household[MOST_HOUSEHOLDS];
        editions = new Edition[MOST_EDITIONS];
        table = new Table();
        finder = new Finder();
        rising = new int[MOST_HOUSEHOLDS];
    }

    // ---- questions

    public int question(int kind, int roster) {
        if (kind < CODE || kind > ROSTER) return BAD;
        if (roster != TOP) {
            Question around = form.questionOf(roster);
            if (around == null) return BAD;
            if (around.kind != ROSTER || kind == ROSTER) return KIND;
        }
        if (form.questionsAreFull()) return FULL;
        int q = form.addQuestion(new Question(kind, roster, TOLD, NONE));
        if (kind == ROSTER) emptyEverywhere(q);
        return q;
    }

    public int code(int q, int c) {
        Question asked = form.questionOf(q);
        if (asked == null || !isCode(c)) return BAD;
        if (asked.kind > CODES || asked.made != TOLD) return KIND;
        if (asked.codeIndex(c) != NONE) return TWICE;
        if (asked.codeCount >= MOST_CODES) return FULL;
        asked.addCode(c);
        return asked.codeCount;
    }

    public int map(int q) {
        Question source = form.questionOf(q);
        if (source == null) return BAD;
        if (source.kind == CODES || source.kind == ROSTER) return KIND;
        if (form.questionsAreFull()) return FULL;
        return form.addQuestion(new Question(CODE, source.roster, MAP, q));
    }

    public int row(int q, long low, long high, int c) {
        Question asked = form.questionOf(q);
        if (asked == null || low > high || !isCode(c)) return BAD;
        if (asked.made != MAP) return KIND;
        if (asked.rowCount >= MOST_ROWS) return FULL;
        asked.addRow(low, high, c);
        for (int h = 0; h < householdCount; h++) households[h].unsettle(asked.step);
        return asked.rowCount;
    }

    public int howMany(int roster, int condition) {
        Question around = form.questionOf(roster);
        Condition wanted = form.conditionOf(condition);
        if (around == null || wanted == null) return BAD;
        if (around.kind != ROSTER || wanted.reach != roster) return KIND;
        if (form.questionsAreFull()) return FULL;
        return form.addQuestion(new Question(WHOLE, TOP, HOW_MANY, condition));
    }

    public int sum(int q) {
        Question source = form.questionOf(q);
        if (source == null) return BAD;
        if (source.roster == TOP || (source.kind != WHOLE && source.kind != CENTS)) return KIND;
        if (form.questionsAreFull()) return FULL;
        return form.addQuestion(new Question(source.kind, TOP, SUM, q));
    }

    public int of(int q, int what) {
        Question asked = form.questionOf(q);
        if (asked == null) return BAD;
        switch (what) {
            case 0: return asked.kind;
            case 1: return asked.roster;
            case 2: return asked.codeCount;
            case 3: return asked.made;
            case 4: return asked.filter;
            case 5: return asked.marked ? 1 : 0;
            default: return BAD;
        }
    }

    public int codeAt(int q, int i) {
        Question asked = form.questionOf(q);
        if (asked == null || i < 0 || i >= asked.codeCount) return NO_CODE;
        return asked.codes[i];
    }

    private static boolean isCode(int c) {
        return c >= LEAST_CODE && c <= GREATEST_CODE;
    }

    /** A roster is never missing, so its first answer is not that of the other questions. */
    private void emptyEverywhere(int roster) {
        for (int h = 0; h < householdCount; h++) households[h].sheet.put(spot(roster, NONE), 0);
    }

    // ---- answers

    public int household() {
        if (householdCount >= MOST_HOUSEHOLDS) return FULL;
        Household home = new Household();
        for (int q = 0; q < form.questionCount; q++) {
            if (form.questions[q].kind == ROSTER) home.sheet.put(spot(q, NONE), 0);
        }
        households[householdCount] = home;
        householdCount++;
        return householdCount - 1;
    }

    public int answer(int h, int q, int person, long v) {
        Household home = homeOf(h);
        Question asked = form.questionOf(q);
        if (home == null || asked == null || !isPlace(home.sheet, asked.roster, person)) return BAD;
        if (asked.made != TOLD) return KIND;
        if (!asked.takes(v)) return BAD;
        home.sheet.put(spot(q, person), v);
        if (asked.kind == ROSTER) dropPersons(home.sheet, q, (int) v);
        home.unsettle(0);
        return 1;
    }

    public int missing(int h, int q, int person, int reason) {
        Household home = homeOf(h);
        Question asked = form.questionOf(q);
        if (home == null || asked == null || !isPlace(home.sheet, asked.roster, person)) return BAD;
        if (reason < FIRST_REASON || reason > LAST_REASON) return BAD;
        if (asked.made != TOLD || asked.kind == ROSTER) return KIND;
        home.sheet.lack(spot(q, person), reason);
        home.unsettle(0);
        return 1;
    }

    public long value(int h, int q, int person) {
        Sheet sheet = settledSheet(h, q, person);
        return sheet == null ? 0 : sheet.values[spot(q, person)];
    }

    public int reason(int h, int q, int person) {
        Sheet sheet = settledSheet(h, q, person);
        return sheet == null ? BAD : sheet.reasons[spot(q, person)];
    }

    private Household homeOf(int h) {
        return h >= 0 && h < householdCount ? households[h] : null;
    }

    /** The answers of a household with the made ones reckoned, or null if there is no such place. */
    private Sheet settledSheet(int h, int q, int person) {
        Household home = homeOf(h);
        Question asked = form.questionOf(q);
        if (home == null || asked == null || !isPlace(home.sheet, asked.roster, person)) return null;
        form.settle(home);
        return home.sheet;
    }

    /** Whoever comes back later starts anew, so nothing may stay behind the last person. */
    private void dropPersons(Sheet sheet, int roster, int kept) {
        for (int q = 0; q < form.questionCount; q++) {
            if (form.questions[q].roster != roster) continue;
            for (int person = kept; person < MOST_PERSONS; person++) sheet.lack(spot(q, person), FIRST_REASON);
        }
    }

    /** At the TOP, where the person is NONE, the spot of the first person serves. */
    private static int spot(int q, int person) {
        return q * MOST_PERSONS + (person > 0 ? person : 0);
    }

    private static boolean isPlace(Sheet sheet, int reach, int person) {
        if (reach == TOP) return person == NONE;
        return person >= 0 && person < sheet.persons(reach);
    }

    /** How many places there are at the TOP (one) or in a roster (one a person). */
    private static int placesOf(Sheet sheet, int reach) {
        return reach == TOP ? 1 : sheet.persons(reach);
    }

    private static int personOf(int reach, int place) {
        return reach == TOP ? NONE : place;
    }

    // ---- conditions

    public int ask(int code, int q, long v) {
        Question asked = form.questionOf(q);
        if (code < IS || code > LACKS || asked == null) return BAD;
        if (code == IS && asked.kind == CODES && (v < 0 || v >= MOST_CODES)) return BAD;
        if ((code == BELOW || code == ABOVE) && asked.kind <= CODES) return KIND;
        if (form.conditionsAreFull(1)) return FULL;
        return form.addCondition(new Condition(code, q, NONE, v, asked.roster, 1, q));
    }

    public int logic(int way, int a, int b) {
        Condition first = form.conditionOf(a);
        if (way < 0 || way > NOT - BOTH || first == null) return BAD;
        if (BOTH + way == NOT) {
            int more = first.size + 1;
            if (form.conditionsAreFull(more)) return FULL;
            return form.addCondition(new Condition(NOT, a, NONE, 0, first.reach, more, first.newest));
        }
        Condition second = form.conditionOf(b);
        if (second == null) return BAD;
        if (first.reach != TOP && second.reach != TOP && first.reach != second.reach) return KIND;
        int size = first.size + second.size + 1;
        if (form.conditionsAreFull(size)) return FULL;
        int reach = first.reach == TOP ? second.reach : first.reach;
        int newest = Math.max(first.newest, second.newest);
        return form.addCondition(new Condition(BOTH + way, a, b, 0, reach, size, newest));
    }

    public int some(int a, int n) {
        Condition part = form.conditionOf(a);
        if (part == null || n < 0 || n > MOST_PERSONS) return BAD;
        if (part.reach == TOP) return KIND;
        int size = part.size + 1;
        if (form.conditionsAreFull(size)) return FULL;
        return form.addCondition(new Condition(SOME, a, NONE, n, TOP, size, part.newest));
    }

    public int holds(int condition, int h, int person) {
        Condition wanted = form.conditionOf(condition);
        Household home = homeOf(h);
        if (wanted == null || home == null || !isPlace(home.sheet, wanted.reach, person)) return BAD;
        form.settle(home);
        return home.isSo(condition, wanted.reach, Math.max(person, 0)) ? 1 : 0;
    }

    public int filter(int q, int condition) {
        Question asked = form.questionOf(q);
        Condition wanted = form.conditionOf(condition);
        if (asked == null || (condition != NONE && wanted == null)) return BAD;
        if (asked.made != TOLD) return KIND;
        if (wanted != null) {
            if (wanted.reach != TOP && wanted.reach != asked.roster) return KIND;
            if (wanted.newest >= q) return KIND;
        }
        asked.filter = condition;
        return 1;
    }

    public int against() {
        findAgainst(NONE);
        return finder.seen;
    }

    public int againstAt(int k, int what) {
        if (k < 0) return NO_ENTRY;
        findAgainst(k);
        return finder.told(what, 3, NO_ENTRY);
    }

    private void findAgainst(int k) {
        finder.start(k);
        for (int h = 0; h < householdCount; h++) {
            form.settle(households[h]);
            for (int q = 0; q < form.questionCount; q++) {
                if (form.questions[q].filter != NONE) meetAgainst(h, q);
            }
        }
    }

    private void meetAgainst(int h, int q) {
        Household home = households[h];
        Question asked = form.questions[q];
        Condition wanted = form.conditionOf(asked.filter);
        if (wanted == null) return;
        int places = placesOf(home.sheet, asked.roster);
        for (int p = 0; p < places; p++) {
            if (!isGiven(home.sheet, asked, spot(q, p))) continue;
            if (home.isSo(asked.filter, wanted.reach, p)) continue;
            finder.meet(h, q, personOf(asked.roster, p));
        }
    }

    private static boolean isGiven(Sheet sheet, Question asked, int spot) {
        if (asked.kind == ROSTER) return sheet.values[spot] != 0;
        return sheet.reasons[spot] == 0;
    }

    // ---- weights, tables

    public int weight(int h, int up, int low) {
        Household home = homeOf(h);
        if (home == null || up < 0 || up > GREATEST_UP || low < 1 || low > GREATEST_LOW) return BAD;
        home.weight = up * (UNIT / low);
        return 1;
    }

    public int table(int q, int r) {
        Question first = form.questionOf(q);
        Question second = form.questionOf(r);
        if (first == null || (r != NONE && second == null)) return BAD;
        if (!first.makesLines() || (second != null && !second.makesLines())) return KIND;
        table.start(first.codeCount + 1, second == null ? 1 : second.codeCount + 1, second != null);
        for (int h = 0; h < householdCount; h++) {
            Household home = households[h];
            form.settle(home);
            int column = second == null ? 0 : second.lineOf(home.sheet, spot(r, NONE));
            table.add(first.lineOf(home.sheet, spot(q, NONE)), column, home.weight);
        }
        return table.cells();
    }

    public long cell(int i, int j, int what) {
        if (!table.hasCell(i, j)) return BAD;
        switch (what) {
            case 0: return table.counts[table.at(i, j)];
            case 1: return table.weights[table.at(i, j)];
            case 2: return table.isHeld(i, j) ? 1 : 0;
            default: return BAD;
        }
    }

    public int shares(int n) {
        if (table.isNone() || n < 0 || n > GREATEST_SHARED) return BAD;
        return table.reckonShares(n) ? 1 : 0;
    }

    public int share(int i, int j) {
        return table.hasCell(i, j) ? table.shares[table.at(i, j)] : BAD;
    }

    public int shown(int threshold) {
        if (table.isNone() || threshold < 1 || threshold > GREATEST_THRESHOLD) return BAD;
        table.holdBelow(threshold);
        table.holdUntilNoneFollows();
        return table.heldCount;
    }

    public int follows() {
        return table.isNone() ? BAD : table.firstFollowing() + 1;
    }

    // ---- ranks, doubles, editions

    public int rank(int q, int k) {
        Question asked = form.questionOf(q);
        if (asked == null || k < 0 || k >= householdCount) return BAD;
        if (asked.roster != TOP || asked.kind == CODES) return KIND;
        int valued = sortRising(q, NONE);
        if (k < valued) return rising[k];
        return missingAt(q, k - valued);
    }

    public long part(int q, int condition, int up, int low) {
        Question asked = form.questionOf(q);
        Condition wanted = form.conditionOf(condition);
        if (asked == null || wanted == null) return 0;
        if (low < 1 || low > GREATEST_PART_LOW || up < 0 || up > low) return 0;
        if (asked.roster != TOP || asked.kind < WHOLE || asked.kind > DAY || wanted.reach != TOP) return 0;
        int valued = sortRising(q, condition);
        if (valued == 0) return 0;
        int h = rising[(valued - 1) * up / low];
        return households[h].sheet.values[spot(q, NONE)];
    }

    /** Puts the households with a value, for which the condition (if any) is so, in rising order; tells how many. */
    private int sortRising(int q, int condition) {
        int valued = 0;
        for (int h = 0; h < householdCount; h++) {
            Household home = households[h];
            form.settle(home);
            if (home.sheet.reasons[spot(q, NONE)] != 0) continue;
            if (condition != NONE && !home.isSo(condition, TOP, 0)) continue;
            insertRising(q, h, valued);
            valued++;
        }
        return valued;
    }

    private void insertRising(int q, int h, int valued) {
        long height = heightOf(q, h);
        int to = valued;
        while (to > 0 && heightOf(q, rising[to - 1]) > height) {
            rising[to] = rising[to - 1];
            to--;
        }
        rising[to] = h;
    }

    /** Codes are names, not amounts: they rise in the order in which they came, whatever they are. */
    private long heightOf(int q, int h) {
        Question asked = form.questions[q];
        long v = households[h].sheet.values[spot(q, NONE)];
        return asked.kind == CODE ? asked.codeIndex(v) : v;
    }

    private int missingAt(int q, int k) {
        int left = k;
        for (int h = 0; h < householdCount; h++) {
            if (households[h].sheet.reasons[spot(q, NONE)] == 0) continue;
            if (left == 0) return h;
            left--;
        }
        return BAD;
    }

    public int mark(int q, boolean on) {
        Question asked = form.questionOf(q);
        if (asked == null) return BAD;
        if (asked.roster != TOP || asked.made != TOLD) return KIND;
        int before = asked.marked ? 1 : 0;
        asked.marked = on;
        return before;
    }

    public int doubles() {
        findDoubles(NONE);
        return finder.seen;
    }

    public int doubleAt(int k, int what) {
        if (k < 0) return BAD;
        findDoubles(k);
        return finder.told(what, 2, BAD);
    }

    private void findDoubles(int k) {
        finder.start(k);
        if (!form.hasMarked()) return;
        for (int h = 0; h < householdCount; h++) {
            for (int other = h + 1; other < householdCount; other++) {
                if (areDoubles(households[h].sheet, households[other].sheet)) finder.meet(h, other, NONE);
            }
        }
    }

    private boolean areDoubles(Sheet one, Sheet other) {
        for (int q = 0; q < form.questionCount; q++) {
            Question asked = form.questions[q];
            if (!asked.marked) continue;
            if (!one.isLike(other, spot(q, NONE))) return false;
            if (asked.kind == ROSTER && !areLikeIn(q, one, other)) return false;
        }
        return true;
    }

    /** Whether all persons of a roster, of whom both have as many, gave like answers. */
    private boolean areLikeIn(int roster, Sheet one, Sheet other) {
        int persons = one.persons(roster);
        for (int q = roster + 1; q < form.questionCount; q++) {
            Question asked = form.questions[q];
            if (asked.roster != roster || asked.made != TOLD) continue;
            for (int person = 0; person < persons; person++) {
                if (!one.isLike(other, spot(q, person))) return false;
            }
        }
        return true;
    }

    public int freeze() {
        if (editionCount >= MOST_EDITIONS) return FULL;
        Sheet[] sheets = new Sheet[householdCount];
        for (int h = 0; h < householdCount; h++) sheets[h] = new Sheet(households[h].sheet, form.questionCount);
        editions[editionCount] = new Edition(sheets, form.questionCount);
        editionCount++;
        return editionCount - 1;
    }

    public long frozen(int e, int h, int q, int person) {
        Sheet sheet = frozenSheet(e, h, q, person);
        return sheet == null ? 0 : sheet.values[spot(q, person)];
    }

    public int frozenReason(int e, int h, int q, int person) {
        Sheet sheet = frozenSheet(e, h, q, person);
        return sheet == null ? BAD : sheet.reasons[spot(q, person)];
    }

    public int changes(int e, int f) {
        Edition from = editionOf(e);
        Edition to = editionOf(f);
        if (from == null || to == null) return BAD;
        findChanges(from, to, NONE);
        return finder.seen;
    }

    public int changeAt(int e, int f, int k, int what) {
        Edition from = editionOf(e);
        Edition to = editionOf(f);
        if (from == null || to == null || k < 0) return NO_ENTRY;
        findChanges(from, to, k);
        return finder.told(what, 3, NO_ENTRY);
    }

    public int merge(int e) {
        Edition edition = editionOf(e);
        if (edition == null) return BAD;
        int merged = 0;
        int homes = Math.min(edition.sheets.length, householdCount);
        for (int h = 0; h < homes; h++) {
            int back = bringBack(edition, h);
            if (back > 0) households[h].unsettle(0);
            merged += back;
        }
        return merged;
    }

    public int count(int what) {
        switch (what) {
            case 0: return form.questionCount;
            case 1: return householdCount;
            case 2: return form.conditionCount;
            case 3: return editionCount;
            case 4: return table.rows;
            case 5: return table.columns;
            default: return BAD;
        }
    }

    private Edition editionOf(int e) {
        return e >= 0 && e < editionCount ? editions[e] : null;
    }

    private Sheet frozenSheet(int e, int h, int q, int person) {
        Edition edition = editionOf(e);
        Question asked = form.questionOf(q);
        if (edition == null || asked == null || asked.made != TOLD) return null;
        if (q >= edition.questionCount || h < 0 || h >= edition.sheets.length) return null;
        Sheet sheet = edition.sheets[h];
        return isPlace(sheet, asked.roster, person) ? sheet : null;
    }

    private void findChanges(Edition from, Edition to, int k) {
        finder.start(k);
        int homes = Math.min(from.sheets.length, to.sheets.length);
        int asked = Math.min(from.questionCount, to.questionCount);
        for (int h = 0; h < homes; h++) {
            for (int q = 0; q < asked; q++) {
                if (form.questions[q].made == TOLD) meetChanges(from.sheets[h], to.sheets[h], h, q);
            }
        }
    }

    private void meetChanges(Sheet from, Sheet to, int h, int q) {
        int roster = form.questions[q].roster;
        int before = placesOf(from, roster);
        int behind = placesOf(to, roster);
        int inBoth = Math.min(before, behind);
        int inOne = Math.max(before, behind);
        for (int p = 0; p < inOne; p++) {
            if (p >= inBoth || !from.isLike(to, spot(q, p))) finder.meet(h, q, personOf(roster, p));
        }
    }

    private int bringBack(Edition edition, int h) {
        Sheet now = households[h].sheet;
        Sheet then = edition.sheets[h];
        int back = 0;
        for (int q = 0; q < edition.questionCount; q++) {
            Question asked = form.questions[q];
            if (asked.made != TOLD) continue;
            int places = Math.min(placesOf(now, asked.roster), placesOf(then, asked.roster));
            for (int p = 0; p < places; p++) {
                if (now.takeFrom(then, spot(q, p))) back++;
            }
        }
        return back;
    }

    /** A question with its codes and, if it is a map, its rows. */
    private static final class Question {
        final int kind;
        final int roster;
        final int made;
        /** Of what it is made: a question, of HOW_MANY a condition. */
        final int source;
        final int[] codes;
        int codeCount;
        final long[] lows;
        final long[] highs;
        final int[] rowCodes;
        int rowCount;
        int filter;
        boolean marked;
        int step;

        Question(int kind, int roster, int made, int source) {
            this.kind = kind;
            this.roster = roster;
            this.made = made;
            this.source = source;
            codes = new int[MOST_CODES];
            int rows = made == MAP ? MOST_ROWS : 0;
            lows = new long[rows];
            highs = new long[rows];
            rowCodes = new int[rows];
            filter = NONE;
        }

        int codeIndex(long c) {
            for (int i = 0; i < codeCount; i++) {
                if (codes[i] == c) return i;
            }
            return NONE;
        }

        void addCode(int c) {
            if (codeCount >= MOST_CODES) return;
            codes[codeCount] = c;
            codeCount++;
        }

        void addRow(long low, long high, int c) {
            if (rowCount >= rowCodes.length) return;
            lows[rowCount] = low;
            highs[rowCount] = high;
            rowCodes[rowCount] = c;
            rowCount++;
            if (codeIndex(c) == NONE) addCode(c);
        }

        int rowAround(long v) {
            for (int i = 0; i < rowCount; i++) {
                if (lows[i] <= v && v <= highs[i]) return i;
            }
            return NONE;
        }

        boolean takes(long v) {
            switch (kind) {
                case CODE: return codeIndex(v) != NONE;
                case CODES: return v >= 0 && v < (1L << codeCount);
                case WHOLE: return v == (int) v;
                case CENTS: return v >= -GREATEST_CENTS && v <= GREATEST_CENTS;
                case DAY: return v >= -GREATEST_DAY && v <= GREATEST_DAY;
                default: return v >= 0 && v <= MOST_PERSONS;
            }
        }

        boolean makesLines() {
            return kind == CODE && roster == TOP;
        }

        /** The row or column of a table in which an answer stands; the last one is for missing ones. */
        int lineOf(Sheet sheet, int spot) {
            if (sheet.reasons[spot] != 0) return codeCount;
            int line = codeIndex(sheet.values[spot]);
            return line == NONE ? codeCount : line;
        }
    }

    private static final class Condition {
        /** IS .. LACKS of the question first; BOTH .. SOME of the conditions first and second. */
        final int way;
        final int first;
        final int second;
        final long v;
        final int reach;
        final int size;
        /** The greatest number of a question that it names. */
        final int newest;

        Condition(int way, int first, int second, long v, int reach, int size, int newest) {
            this.way = way;
            this.first = first;
            this.second = second;
            this.v = v;
            this.reach = reach;
            this.size = size;
            this.newest = newest;
        }

        boolean fits(long told, int lack, boolean isSet) {
            if (way == LACKS) return lack != 0;
            if (lack != 0) return false;
            if (way == BELOW) return told < v;
            if (way == ABOVE) return told > v;
            return isSet ? (told >> (int) v & 1) != 0 : told == v;
        }
    }

    /** The answers of one household: at each spot a value with reason 0, or 0 with the reason why it is missing. */
    private static final class Sheet {
        final long[] values;
        final int[] reasons;

        Sheet() {
            values = new long[MOST_QUESTIONS * MOST_PERSONS];
            reasons = new int[MOST_QUESTIONS * MOST_PERSONS];
            Arrays.fill(reasons, FIRST_REASON);
        }

        /** A copy that keeps the questions which are there, and has no room for later ones. */
        Sheet(Sheet elder, int questionCount) {
            int spots = Math.min(Math.max(questionCount, 0), MOST_QUESTIONS) * MOST_PERSONS;
            values = Arrays.copyOf(elder.values, spots);
            reasons = Arrays.copyOf(elder.reasons, spots);
        }

        int persons(int roster) {
            return (int) values[spot(roster, NONE)];
        }

        void put(int spot, long v) {
            values[spot] = v;
            reasons[spot] = 0;
        }

        void lack(int spot, int reason) {
            values[spot] = 0;
            reasons[spot] = reason;
        }

        boolean isLike(Sheet other, int spot) {
            return values[spot] == other.values[spot] && reasons[spot] == other.reasons[spot];
        }

        boolean takeFrom(Sheet elder, int spot) {
            if (reasons[spot] == 0 || elder.reasons[spot] != 0) return false;
            put(spot, elder.values[spot]);
            return true;
        }
    }

    private static final class Household {
        final Sheet sheet;
        /** Of each condition a bit for each person of whom it is so; at the TOP the lowest bit alone. */
        final int[] truths;
        /** How many of the form's steps are reckoned from the answers as they are now. */
        int settled;
        int weight;

        Household() {
            sheet = new Sheet();
            truths = new int[MOST_CONDITIONS];
            weight = UNIT;
        }

        void unsettle(int step) {
            settled = Math.min(settled, step);
        }

        boolean isSo(int condition, int reach, int place) {
            int bit = reach == TOP ? 0 : place;
            return (truths[condition] >> bit & 1) != 0;
        }
    }

    private static final class Edition {
        final Sheet[] sheets;
        final int questionCount;

        Edition(Sheet[] sheets, int questionCount) {
            this.sheets = sheets;
            this.questionCount = questionCount;
        }
    }

    /** Counts what a search meets and keeps the one that was wanted. */
    private static final class Finder {
        int wanted;
        int seen;
        int first;
        int second;
        int third;

        void start(int k) {
            wanted = k;
            seen = 0;
        }

        void meet(int a, int b, int c) {
            if (seen == wanted) {
                first = a;
                second = b;
                third = c;
            }
            seen++;
        }

        int told(int what, int most, int refusal) {
            if (what < 0 || what >= most || wanted >= seen) return refusal;
            if (what == 0) return first;
            return what == 1 ? second : third;
        }
    }

    /**
     * The questions and the conditions. Each is made of elder ones alone, so that all that follows from a
     * household's answers is reckoned step by step, in the order in which they came, without recursion.
     */
    private static final class Form {
        final Question[] questions;
        int questionCount;
        final Condition[] conditions;
        int conditionCount;
        /** Made questions by their numbers, and conditions by theirs and MOST_QUESTIONS more. */
        final int[] steps;
        int stepCount;

        Form() {
            questions = new Question[MOST_QUESTIONS];
            conditions = new Condition[MOST_CONDITIONS];
            steps = new int[MOST_QUESTIONS + MOST_CONDITIONS];
        }

        Question questionOf(int q) {
            return q >= 0 && q < questionCount ? questions[q] : null;
        }

        Condition conditionOf(int c) {
            return c >= 0 && c < conditionCount ? conditions[c] : null;
        }

        boolean questionsAreFull() {
            return questionCount >= MOST_QUESTIONS;
        }

        boolean conditionsAreFull(int size) {
            return conditionCount >= MOST_CONDITIONS || size > MOST_SIZE;
        }

        int addQuestion(Question fresh) {
            if (questionsAreFull()) return FULL;
            questions[questionCount] = fresh;
            if (fresh.made != TOLD) fresh.step = addStep(questionCount);
            questionCount++;
            return questionCount - 1;
        }

        int addCondition(Condition fresh) {
            if (conditionsAreFull(fresh.size)) return FULL;
            conditions[conditionCount] = fresh;
            addStep(MOST_QUESTIONS + conditionCount);
            conditionCount++;
            return conditionCount - 1;
        }

        private int addStep(int step) {
            steps[stepCount] = step;
            stepCount++;
            return stepCount - 1;
        }

        boolean hasMarked() {
            for (int q = 0; q < questionCount; q++) {
                if (questions[q].marked) return true;
            }
            return false;
        }

        void settle(Household home) {
            for (int s = home.settled; s < stepCount; s++) {
                int step = steps[s];
                if (step >= MOST_QUESTIONS) makeTruths(home, step - MOST_QUESTIONS);
                else if (questions[step].made == MAP) makeMapped(home.sheet, step);
                else if (questions[step].made == SUM) makeSum(home.sheet, step);
                else makeHowMany(home, step);
            }
            home.settled = stepCount;
        }

        private void makeHowMany(Household home, int q) {
            home.sheet.put(spot(q, NONE), Integer.bitCount(home.truths[questions[q].source]));
        }

        private void makeMapped(Sheet sheet, int q) {
            Question asked = questions[q];
            int places = placesOf(sheet, asked.roster);
            for (int p = 0; p < places; p++) {
                int from = spot(asked.source, p);
                int to = spot(q, p);
                int row = asked.rowAround(sheet.values[from]);
                if (sheet.reasons[from] != 0) sheet.lack(to, sheet.reasons[from]);
                else if (row == NONE) sheet.lack(to, IN_NO_ROW);
                else sheet.put(to, asked.rowCodes[row]);
            }
        }

        /** Five whole numbers, or five amounts of cents, never go beyond a long: only an int needs a look. */
        private void makeSum(Sheet sheet, int q) {
            Question asked = questions[q];
            int persons = sheet.persons(questions[asked.source].roster);
            long total = 0;
            boolean none = true;
            for (int p = 0; p < persons; p++) {
                int from = spot(asked.source, p);
                if (sheet.reasons[from] != 0) continue;
                total += sheet.values[from];
                none = false;
            }
            boolean beyond = asked.kind == WHOLE && total != (int) total;
            if (none || beyond) sheet.lack(spot(q, NONE), NO_SUM);
            else sheet.put(spot(q, NONE), total);
        }

        private void makeTruths(Household home, int c) {
            Condition made = conditions[c];
            int places = placesOf(home.sheet, made.reach);
            int all = (1 << places) - 1;
            switch (made.way) {
                case BOTH:
                    home.truths[c] = spread(home, made.first, all) & spread(home, made.second, all);
                    break;
                case EITHER:
                    home.truths[c] = spread(home, made.first, all) | spread(home, made.second, all);
                    break;
                case NOT:
                    home.truths[c] = all & ~home.truths[made.first];
                    break;
                case SOME:
                    home.truths[c] = Integer.bitCount(home.truths[made.first]) >= made.v ? 1 : 0;
                    break;
                default:
                    home.truths[c] = bitsOfAsk(home.sheet, made, places);
            }
        }

        /** What is so at the TOP is so of every person. */
        private int spread(Household home, int c, int all) {
            if (conditions[c].reach != TOP) return home.truths[c];
            return home.truths[c] == 0 ? 0 : all;
        }

        private int bitsOfAsk(Sheet sheet, Condition made, int places) {
            boolean isSet = questions[made.first].kind == CODES;
            int bits = 0;
            for (int p = 0; p < places; p++) {
                int from = spot(made.first, p);
                if (made.fits(sheet.values[from], sheet.reasons[from], isSet)) bits |= 1 << p;
            }
            return bits;
        }
    }

    /** The table that was made last: no rows, if there is none. */
    private static final class Table {
        int rows;
        int columns;
        boolean byTwo;
        final int[] counts;
        final long[] weights;
        final int[] shares;
        final long[] remainders;
        /** Of each row a bit for each column in which the cell is held back. */
        final int[] heldInRow;
        int heldCount;

        Table() {
            counts = new int[MOST_CELLS];
            weights = new long[MOST_CELLS];
            shares = new int[MOST_CELLS];
            remainders = new long[MOST_CELLS];
            heldInRow = new int[MOST_LINES];
        }

        void start(int rows, int columns, boolean byTwo) {
            this.rows = rows;
            this.columns = columns;
            this.byTwo = byTwo;
            Arrays.fill(counts, 0);
            Arrays.fill(weights, 0);
            Arrays.fill(shares, 0);
            holdNone();
        }

        boolean isNone() {
            return rows == 0;
        }

        int cells() {
            return rows * columns;
        }

        boolean hasCell(int i, int j) {
            return i >= 0 && i < rows && j >= 0 && j < columns;
        }

        int at(int i, int j) {
            return i * columns + j;
        }

        void add(int i, int j, int weight) {
            if (!hasCell(i, j)) return;
            counts[at(i, j)]++;
            weights[at(i, j)] += weight;
        }

        /** Tells whether there was a weight to share by. */
        boolean reckonShares(int n) {
            Arrays.fill(shares, 0);
            long total = 0;
            for (int c = 0; c < cells(); c++) total += weights[c];
            if (total <= 0) return false;
            int rest = n;
            for (int c = 0; c < cells(); c++) {
                shares[c] = (int) (n * weights[c] / total);
                remainders[c] = n * weights[c] % total;
                rest -= shares[c];
            }
            for (int given = 0; given < rest; given++) giveOneMore();
            return true;
        }

        private void giveOneMore() {
            int best = 0;
            for (int c = 1; c < cells(); c++) {
                if (remainders[c] > remainders[best]) best = c;
            }
            shares[best]++;
            remainders[best] = -1;
        }

        boolean isHeld(int i, int j) {
            return (heldInRow[i] >> j & 1) != 0;
        }

        private void hold(int i, int j) {
            heldInRow[i] |= 1 << j;
            heldCount++;
        }

        private void holdNone() {
            Arrays.fill(heldInRow, 0);
            heldCount = 0;
        }

        void holdBelow(int threshold) {
            holdNone();
            for (int i = 0; i < rows; i++) {
                for (int j = 0; j < columns; j++) {
                    int here = counts[at(i, j)];
                    if (here > 0 && here < threshold) hold(i, j);
                }
            }
        }

        void holdUntilNoneFollows() {
            for (int turn = 0; turn < MOST_CELLS; turn++) {
                int bare = firstFollowing();
                if (bare == NONE || columns == 0) return;
                int cover = coverFor(bare / columns, bare % columns);
                if (cover == NONE) return;
                hold(cover / columns, cover % columns);
            }
        }

        private int coverFor(int i, int j) {
            int cover = leastOpen(i, i + 1, 0, columns);
            if (cover == NONE) cover = leastOpen(0, rows, j, j + 1);
            if (cover == NONE) cover = leastOpen(0, rows, 0, columns);
            return cover;
        }

        /** The first cell with the least count of those that are not held back, in rows and columns from .. to. */
        private int leastOpen(int fromRow, int toRow, int fromColumn, int toColumn) {
            int least = NONE;
            for (int i = fromRow; i < toRow; i++) {
                for (int j = fromColumn; j < toColumn; j++) {
                    if (isHeld(i, j)) continue;
                    if (least == NONE || counts[at(i, j)] < counts[least]) least = at(i, j);
                }
            }
            return least;
        }

        /** The number of the first cell that is held back and still follows, or NONE. */
        int firstFollowing() {
            for (int i = 0; i < rows; i++) {
                for (int j = 0; j < columns; j++) {
                    if (isHeld(i, j) && !isFree(i, j)) return at(i, j);
                }
            }
            return NONE;
        }

        /**
         * Rows and columns are knots and cells held back are ties between them: a cell can be another
         * number, with all sums kept, just when it lies on a ring of such ties.
         */
        private boolean isFree(int i, int j) {
            if (!byTwo) return heldCount > 1;
            int reached = heldInRow[i] & ~(1 << j);
            for (int round = 0; round < rows; round++) {
                int before = reached;
                for (int other = 0; other < rows; other++) {
                    if (other != i && (heldInRow[other] & reached) != 0) reached |= heldInRow[other];
                }
                if ((reached >> j & 1) != 0) return true;
                if (reached == before) return false;
            }
            return false;
        }
    }
}
