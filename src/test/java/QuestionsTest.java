/** Promises 1 to 9: a new object, question, code, map, row, howMany, sum, of, codeAt. */
final class QuestionsTest {
    private static final int BAD = -1, KIND = -2, TWICE = -3, FULL = -4;
    private static final Due due = new Due("QuestionsTest");

    public static void main(String[] args) {
        newObject();
        question();
        questionsFull();
        code();
        map();
        mapsFull();
        row();
        rowChangesWhatIsAskedLater();
        rowsFull();
        howMany();
        sum();
        sumBounds();
        of();
        codeAt();
        due.end();
    }

    private static void newObject() {
        HouseholdVault x = new HouseholdVault();
        for (int what = 0; what < 6; what++) due.is("new: count(" + what + ")", x.count(what), 0);
        due.is("new: against", x.against(), 0);
        due.is("new: doubles", x.doubles(), 0);
        due.is("new: of", x.of(0, 0), BAD);
        due.is("new: value", x.value(0, 0, -1), 0);
        due.is("new: reason", x.reason(0, 0, -1), BAD);
        due.is("new: cell", x.cell(0, 0, 0), BAD);
        due.is("new: share", x.share(0, 0), BAD);
        due.is("new: shares", x.shares(1), BAD);
        due.is("new: shown", x.shown(1), BAD);
        due.is("new: follows", x.follows(), BAD);
        due.is("new: changes", x.changes(0, 0), BAD);
        HouseholdVault other = new HouseholdVault();
        x.question(0, -1);
        x.household();
        due.is("another object knows nothing of it", other.count(0) + other.count(1), 0);
    }

    private static void question() {
        HouseholdVault x = new HouseholdVault();
        due.is("kind -1", x.question(-1, -1), BAD);
        due.is("kind 6", x.question(6, -1), BAD);
        due.is("roster -2", x.question(0, -2), BAD);
        due.is("roster 0 of none", x.question(0, 0), BAD);
        due.is("a refusal counts none", x.count(0), 0);
        for (int kind = 0; kind < 6; kind++) due.is("kind " + kind, x.question(kind, -1), kind);
        for (int kind = 0; kind < 5; kind++) due.is("in the roster", x.question(kind, 5), 6 + kind);
        for (int kind = 0; kind < 5; kind++) due.is("in what is no roster", x.question(2, kind), KIND);
        due.is("a roster in a roster", x.question(5, 5), KIND);
        due.is("a roster in what is none", x.question(5, 0), KIND);
        due.is("in one that lies in a roster", x.question(2, 6), KIND);
        due.is("beyond the last", x.question(2, 11), BAD);
        due.is("a bad kind ahead of a wrong roster", x.question(6, 0), BAD);
        due.is("a second roster", x.question(5, -1), 11);
        due.is("in the second roster", x.question(2, 11), 12);
        due.is("its roster", x.of(12, 1), 11);
    }

    private static void questionsFull() {
        HouseholdVault x = new HouseholdVault();
        x.question(5, -1);
        x.question(2, 0);
        x.ask(0, 1, 0);
        for (int q = 2; q < 24; q++) due.is("question " + q, x.question(4, -1), q);
        due.is("a 25th", x.question(4, -1), FULL);
        due.is("a 25th in a roster", x.question(4, 0), FULL);
        due.is("BAD ahead of FULL", x.question(7, -1), BAD);
        due.is("BAD roster ahead of FULL", x.question(4, 24), BAD);
        due.is("KIND ahead of FULL", x.question(5, 0), KIND);
        due.is("map, full", x.map(1), FULL);
        due.is("map, BAD ahead", x.map(24), BAD);
        due.is("map, KIND ahead", x.map(0), KIND);
        due.is("sum, full", x.sum(1), FULL);
        due.is("sum, BAD ahead", x.sum(-1), BAD);
        due.is("sum, KIND ahead", x.sum(0), KIND);
        due.is("howMany, full", x.howMany(0, 0), FULL);
        due.is("howMany, BAD ahead", x.howMany(0, 1), BAD);
        due.is("howMany, KIND ahead", x.howMany(1, 0), KIND);
        due.is("still 24", x.count(0), 24);
    }

    private static void code() {
        HouseholdVault x = new HouseholdVault();
        for (int kind = 0; kind < 6; kind++) x.question(kind, -1);
        x.question(1, 5);
        x.map(2);
        due.is("no such question", x.code(-1, 0), BAD);
        due.is("no such question", x.code(8, 0), BAD);
        due.is("too low", x.code(0, -129), BAD);
        due.is("too high", x.code(0, 128), BAD);
        for (int kind = 2; kind < 6; kind++) {
            due.is("kind " + kind, x.code(kind, 0), KIND);
            due.is("BAD ahead of KIND", x.code(kind, 128), BAD);
        }
        due.is("a map", x.code(7, 1), KIND);
        due.is("lowest", x.code(0, -128), 1);
        due.is("highest", x.code(0, 127), 2);
        due.is("twice", x.code(0, -128), TWICE);
        for (int c = 3; c < 9; c++) due.is("more", x.code(0, c), c);
        due.is("full", x.code(0, 9), FULL);
        due.is("TWICE ahead of FULL", x.code(0, 127), TWICE);
        due.is("BAD ahead of FULL", x.code(0, 1000), BAD);
        due.is("of another one", x.code(1, 127), 1);
        due.is("in a roster", x.code(6, 127), 1);
        due.is("how many", x.of(0, 2), 8);
    }

    private static void map() {
        HouseholdVault x = new HouseholdVault();
        for (int kind = 0; kind < 6; kind++) x.question(kind, -1);
        x.question(4, 5);
        x.question(1, 5);
        due.is("no such question", x.map(-1), BAD);
        due.is("no such question", x.map(8), BAD);
        due.is("of codes", x.map(1), KIND);
        due.is("of a roster", x.map(5), KIND);
        due.is("of codes in a roster", x.map(7), KIND);
        due.is("of a code", x.map(0), 8);
        due.is("of a whole", x.map(2), 9);
        due.is("of cents", x.map(3), 10);
        due.is("of a day", x.map(4), 11);
        due.is("of a day in a roster", x.map(6), 12);
        due.is("of a map", x.map(8), 13);
        due.is("of a map in a roster", x.map(12), 14);
        due.is("where it lies", x.of(12, 1), 5);
        due.is("where a map of a map lies", x.of(14, 1), 5);
        due.is("at the top", x.of(13, 1), -1);
        due.is("kind", x.of(11, 0), 0);
        due.is("made", x.of(11, 3), 1);
        due.is("no codes yet", x.of(11, 2), 0);
        x.household();
        due.is("missing as that is", x.reason(0, 9, -1), 1);
        x.missing(0, 2, -1, 3);
        due.is("missing as that is", x.reason(0, 9, -1), 3);
        x.answer(0, 2, -1, 0);
        due.is("in no row", x.reason(0, 9, -1), 4);
        due.is("in no row", x.value(0, 9, -1), 0);
        x.code(0, 3);
        x.answer(0, 0, -1, 3);
        x.row(8, 3, 3, 7);
        x.row(13, 7, 7, -9);
        due.is("map", x.value(0, 8, -1), 7);
        due.is("map of a map", x.value(0, 13, -1), -9);
    }

    private static void mapsFull() {
        HouseholdVault x = new HouseholdVault();
        x.question(2, -1);
        x.household();
        x.answer(0, 0, -1, 100);
        for (int q = 1; q < 24; q++) {
            due.is("map " + q, x.map(q - 1), q);
            x.row(q, -200, 200, q);
        }
        due.is("full", x.map(0), FULL);
        due.is("a chain of maps", x.value(0, 23, -1), 23);
        due.is("of each map", x.value(0, 11, -1), 11);
        x.missing(0, 0, -1, 5);
        due.is("all are missing as the first", x.reason(0, 23, -1), 5);
    }

    private static void row() {
        HouseholdVault x = new HouseholdVault();
        x.question(3, -1);
        x.map(0);
        x.household();
        due.is("no such question", x.row(-1, 0, 0, 0), BAD);
        due.is("no such question", x.row(2, 0, 0, 0), BAD);
        due.is("low above high", x.row(1, 1, 0, 0), BAD);
        due.is("code too low", x.row(1, 0, 0, -129), BAD);
        due.is("code too high", x.row(1, 0, 0, 128), BAD);
        due.is("BAD ahead of KIND", x.row(0, 1, 0, 0), BAD);
        due.is("no map", x.row(0, 0, 0, 0), KIND);
        due.is("of all below", x.row(1, Long.MIN_VALUE, -1, 127), 1);
        due.is("one number", x.row(1, 5, 5, -128), 2);
        due.is("inside another", x.row(1, 5, 9, 7), 3);
        due.is("a code again", x.row(1, 100, Long.MAX_VALUE, 127), 4);
        due.is("codes, each once", x.of(1, 2), 3);
        due.is("code 0", x.codeAt(1, 0), 127);
        due.is("code 1", x.codeAt(1, 1), -128);
        due.is("code 2", x.codeAt(1, 2), 7);
        due.is("no code 3", x.codeAt(1, 3), 1000);
        long[][] pairs = {{-1000000000000000L, 127}, {-1, 127}, {5, -128}, {6, 7}, {9, 7}, {100, 127},
            {1000000000000000L, 127}};
        for (long[] pair : pairs) {
            x.answer(0, 0, -1, pair[0]);
            due.is("of " + pair[0], x.value(0, 1, -1), pair[1]);
            due.is("of " + pair[0], x.reason(0, 1, -1), 0);
        }
        long[] between = {0, 4, 10, 99};
        for (long v : between) {
            x.answer(0, 0, -1, v);
            due.is("in none: " + v, x.reason(0, 1, -1), 4);
        }
    }

    private static void rowChangesWhatIsAskedLater() {
        HouseholdVault x = new HouseholdVault();
        x.question(2, -1);
        x.map(0);
        x.household();
        x.household();
        x.answer(0, 0, -1, 4);
        x.answer(1, 0, -1, 4);
        int is = x.ask(0, 1, 9);
        int none = x.ask(3, 1, 0);
        due.is("before", x.holds(is, 0, -1), 0);
        due.is("before", x.holds(none, 1, -1), 1);
        due.is("a table of one line", x.table(1, -1), 1);
        x.row(1, 0, 9, 9);
        due.is("the table is as it was", x.count(4), 1);
        due.is("the table is as it was", x.cell(0, 0, 0), 2);
        due.is("behind", x.holds(is, 0, -1), 1);
        due.is("behind", x.holds(none, 1, -1), 0);
        due.is("behind", x.value(1, 1, -1), 9);
        due.is("a table anew", x.table(1, -1), 2);
        due.is("a table anew", x.cell(0, 0, 0), 2);
        x.row(1, 4, 4, 3);
        due.is("the first row that it is in", x.value(1, 1, -1), 9);
    }

    private static void rowsFull() {
        HouseholdVault x = new HouseholdVault();
        x.question(2, -1);
        x.map(0);
        for (int n = 1; n < 9; n++) due.is("row " + n, x.row(1, n, n, 1), n);
        due.is("full", x.row(1, 9, 9, 1), FULL);
        due.is("BAD ahead of FULL", x.row(1, 9, 8, 1), BAD);
        due.is("one code", x.of(1, 2), 1);
        x.household();
        x.answer(0, 0, -1, 9);
        due.is("a refused row is none", x.reason(0, 1, -1), 4);
    }

    private static void howMany() {
        HouseholdVault x = new HouseholdVault();
        x.question(5, -1);
        x.question(5, -1);
        x.question(2, 0);
        x.question(2, 1);
        x.question(2, -1);
        int first = x.ask(2, 2, 10);
        int second = x.ask(2, 3, 10);
        int top = x.ask(2, 4, 10);
        due.is("no such roster", x.howMany(-1, first), BAD);
        due.is("no such roster", x.howMany(5, first), BAD);
        due.is("no such condition", x.howMany(0, -1), BAD);
        due.is("no such condition", x.howMany(0, 3), BAD);
        due.is("BAD ahead of KIND", x.howMany(2, 3), BAD);
        due.is("no roster", x.howMany(2, first), KIND);
        due.is("it reaches the other roster", x.howMany(0, second), KIND);
        due.is("it reaches the top", x.howMany(0, top), KIND);
        due.is("made", x.howMany(0, first), 5);
        due.is("made", x.howMany(1, second), 6);
        due.is("kind", x.of(5, 0), 2);
        due.is("at the top", x.of(5, 1), -1);
        due.is("made", x.of(5, 3), 2);
        x.household();
        due.is("nobody is there", x.value(0, 5, -1), 0);
        due.is("it is not missing", x.reason(0, 5, -1), 0);
        x.answer(0, 0, -1, 5);
        for (int person = 0; person < 5; person++) {
            x.answer(0, 2, person, 11);
            due.is("persons so", x.value(0, 5, -1), person + 1);
        }
        due.is("of the other roster", x.value(0, 6, -1), 0);
        x.answer(0, 2, 1, 10);
        due.is("one less", x.value(0, 5, -1), 4);
        x.answer(0, 0, -1, 2);
        due.is("fewer persons", x.value(0, 5, -1), 1);
    }

    private static void sum() {
        HouseholdVault x = new HouseholdVault();
        for (int kind = 0; kind < 6; kind++) x.question(kind, -1);
        for (int kind = 0; kind < 5; kind++) x.question(kind, 5);
        due.is("no such question", x.sum(-1), BAD);
        due.is("no such question", x.sum(11), BAD);
        for (int q = 0; q < 6; q++) due.is("at the top", x.sum(q), KIND);
        due.is("a code", x.sum(6), KIND);
        due.is("codes", x.sum(7), KIND);
        due.is("a day", x.sum(10), KIND);
        due.is("wholes", x.sum(8), 11);
        due.is("cents", x.sum(9), 12);
        due.is("of a sum", x.sum(11), KIND);
        due.is("kind", x.of(11, 0), 2);
        due.is("kind", x.of(12, 0), 3);
        due.is("at the top", x.of(12, 1), -1);
        due.is("made", x.of(12, 3), 3);
        x.household();
        due.is("nobody", x.reason(0, 11, -1), 5);
        x.answer(0, 5, -1, 3);
        due.is("no values", x.reason(0, 12, -1), 5);
        x.answer(0, 9, 1, -7);
        due.is("one value", x.value(0, 12, -1), -7);
        due.is("one value", x.reason(0, 12, -1), 0);
        x.answer(0, 9, 2, 9);
        due.is("two values", x.value(0, 12, -1), 2);
        x.missing(0, 9, 1, 2);
        due.is("one is missing again", x.value(0, 12, -1), 9);
        x.answer(0, 9, 2, 0);
        due.is("nothing together is a value", x.reason(0, 12, -1), 0);
        x.answer(0, 5, -1, 2);
        due.is("the person went", x.reason(0, 12, -1), 5);
    }

    private static void sumBounds() {
        HouseholdVault x = new HouseholdVault();
        x.question(5, -1);
        x.question(2, 0);
        x.question(3, 0);
        x.sum(1);
        x.sum(2);
        x.household();
        x.answer(0, 0, -1, 5);
        x.answer(0, 1, 0, Integer.MAX_VALUE);
        due.is("the greatest int", x.value(0, 3, -1), Integer.MAX_VALUE);
        x.answer(0, 1, 1, 1);
        due.is("beyond", x.reason(0, 3, -1), 5);
        due.is("beyond", x.value(0, 3, -1), 0);
        x.answer(0, 1, 2, -1);
        due.is("not beyond, all together", x.value(0, 3, -1), Integer.MAX_VALUE);
        for (int person = 0; person < 5; person++) x.answer(0, 1, person, Integer.MIN_VALUE);
        due.is("far below", x.reason(0, 3, -1), 5);
        for (int person = 1; person < 5; person++) x.missing(0, 1, person, 1);
        due.is("the least int", x.value(0, 3, -1), Integer.MIN_VALUE);
        for (int person = 0; person < 5; person++) x.answer(0, 2, person, 1000000000000000L);
        due.is("cents beyond an int", x.value(0, 4, -1), 5000000000000000L);
        for (int person = 0; person < 5; person++) x.answer(0, 2, person, -1000000000000000L);
        due.is("cents below an int", x.value(0, 4, -1), -5000000000000000L);
    }

    private static void of() {
        HouseholdVault x = new HouseholdVault();
        x.question(0, -1);
        x.question(5, -1);
        x.question(1, 1);
        x.code(2, 4);
        x.code(2, 5);
        due.is("no such question", x.of(-1, 0), BAD);
        due.is("no such question", x.of(3, 0), BAD);
        due.is("what -1", x.of(0, -1), BAD);
        due.is("what 6", x.of(0, 6), BAD);
        int[] wanted = {1, 1, 2, 0, -1, 0};
        for (int what = 0; what < 6; what++) due.is("of(2, " + what + ")", x.of(2, what), wanted[what]);
        int condition = x.ask(3, 0, 0);
        x.filter(2, condition);
        due.is("filter", x.of(2, 4), condition);
        x.filter(2, -1);
        due.is("no filter", x.of(2, 4), -1);
        x.mark(1, true);
        due.is("marked", x.of(1, 5), 1);
        due.is("not marked", x.of(0, 5), 0);
        x.mark(1, false);
        due.is("marked no more", x.of(1, 5), 0);
    }

    private static void codeAt() {
        HouseholdVault x = new HouseholdVault();
        x.question(1, -1);
        x.question(2, -1);
        x.code(0, 127);
        x.code(0, -1);
        due.is("code 0", x.codeAt(0, 0), 127);
        due.is("code 1", x.codeAt(0, 1), -1);
        due.is("no code 2", x.codeAt(0, 2), 1000);
        due.is("no code -1", x.codeAt(0, -1), 1000);
        due.is("of a whole", x.codeAt(1, 0), 1000);
        due.is("no such question", x.codeAt(2, 0), 1000);
        due.is("no such question", x.codeAt(-1, 0), 1000);
    }
}
