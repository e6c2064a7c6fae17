/** Promises 10 to 14: household, answer, missing, value, reason. */
final class AnswersTest {
    private static final int BAD = -1, KIND = -2, FULL = -4;
    private static final Due due = new Due("AnswersTest");

    public static void main(String[] args) {
        household();
        places();
        valuesByKind();
        refusedAnswerChangesNothing();
        made();
        missing();
        persons();
        laterQuestions();
        fivePersons();
        due.end();
    }

    private static HouseholdVault allKinds() {
        HouseholdVault x = new HouseholdVault();
        for (int kind = 0; kind < 6; kind++) x.question(kind, -1);
        for (int kind = 0; kind < 5; kind++) x.question(kind, 5);
        return x;
    }

    private static void household() {
        HouseholdVault x = allKinds();
        for (int h = 0; h < 40; h++) due.is("household", x.household(), h);
        due.is("a 41st", x.household(), FULL);
        due.is("still 40", x.count(1), 40);
        for (int q = 0; q < 5; q++) due.is("missing by 1 at first", x.reason(39, q, -1), 1);
        due.is("a roster is not missing", x.reason(39, 5, -1), 0);
        due.is("nobody at first", x.value(39, 5, -1), 0);
        due.is("nobody at first", x.reason(39, 6, 0), BAD);
        due.is("the last one answers", x.answer(39, 2, -1, 4), 1);
        due.is("it alone", x.reason(38, 2, -1), 1);
        due.is("no household 40", x.answer(40, 2, -1, 4), BAD);
        due.is("no household 40", x.reason(40, 2, -1), BAD);
        due.is("no household 40", x.weight(40, 1, 1), BAD);
        HouseholdVault y = new HouseholdVault();
        y.question(5, -1);
        y.household();
        due.is("a roster that is the first question", y.reason(0, 0, -1), 0);
    }

    private static void places() {
        HouseholdVault x = allKinds();
        x.household();
        x.answer(0, 5, -1, 2);
        int[][] bad = {{-1, 2, -1}, {1, 2, -1}, {0, -1, -1}, {0, 11, -1}, {0, 2, 0}, {0, 2, -2}, {0, 5, 0},
            {0, 8, -1}, {0, 8, 2}, {0, 8, 5}, {0, 8, -2}};
        for (int[] p : bad) {
            String at = " at " + p[0] + ", " + p[1] + ", " + p[2];
            due.is("answer" + at, x.answer(p[0], p[1], p[2], 0), BAD);
            due.is("missing" + at, x.missing(p[0], p[1], p[2], 2), BAD);
            due.is("reason" + at, x.reason(p[0], p[1], p[2]), BAD);
            due.is("value" + at, x.value(p[0], p[1], p[2]), 0);
        }
        int[][] good = {{0, 2, -1}, {0, 8, 0}, {0, 8, 1}};
        for (int[] p : good) {
            due.is("answer", x.answer(p[0], p[1], p[2], 77 + p[2]), 1);
            due.is("value", x.value(p[0], p[1], p[2]), 77 + p[2]);
            due.is("reason", x.reason(p[0], p[1], p[2]), 0);
        }
        due.is("each place has its own", x.value(0, 8, 0), 77);
    }

    private static void valuesByKind() {
        HouseholdVault x = allKinds();
        x.household();
        x.answer(0, 5, -1, 1);
        x.code(0, -128);
        x.code(0, 127);
        bounds(x, 0, -1, new long[] {-128, 127}, new long[] {0, 126, 128, 4294967168L, -4294967424L});
        due.is("a set of none without codes", x.answer(0, 1, -1, 0), 1);
        due.is("no code 0 yet", x.answer(0, 1, -1, 1), BAD);
        x.code(1, 9);
        x.code(1, 8);
        bounds(x, 1, -1, new long[] {0, 1, 2, 3}, new long[] {4, -1, 9, 4294967297L});
        for (int c = 0; c < 6; c++) x.code(1, c);
        bounds(x, 1, -1, new long[] {255, 128}, new long[] {256, Long.MIN_VALUE});
        bounds(x, 2, -1, new long[] {2147483647L, -2147483648L, 0}, new long[] {2147483648L, -2147483649L});
        bounds(x, 3, -1, new long[] {1000000000000000L, -1000000000000000L, 0},
            new long[] {1000000000000001L, -1000000000000001L, Long.MIN_VALUE, Long.MAX_VALUE});
        bounds(x, 4, -1, new long[] {30000, -30000, 0}, new long[] {30001, -30001, 4294967296L});
        bounds(x, 5, -1, new long[] {0, 5, 1}, new long[] {6, -1, 4294967296L});
        bounds(x, 8, 0, new long[] {2147483647L, -2147483648L}, new long[] {2147483648L});
        bounds(x, 9, 0, new long[] {-1000000000000000L}, new long[] {-1000000000000001L});
        bounds(x, 10, 0, new long[] {30000}, new long[] {30001});
    }

    private static void bounds(HouseholdVault x, int q, int person, long[] good, long[] bad) {
        for (long v : bad) due.is("question " + q + ", bad " + v, x.answer(0, q, person, v), BAD);
        for (long v : good) {
            due.is("question " + q + ", good " + v, x.answer(0, q, person, v), 1);
            due.is("question " + q + ", told " + v, x.value(0, q, person), v);
            due.is("question " + q + ", not missing", x.reason(0, q, person), 0);
        }
    }

    private static void refusedAnswerChangesNothing() {
        HouseholdVault x = allKinds();
        x.household();
        x.answer(0, 4, -1, 12);
        x.answer(0, 4, -1, 40000);
        due.is("a bad value", x.value(0, 4, -1), 12);
        x.missing(0, 4, -1, 6);
        due.is("a bad reason", x.reason(0, 4, -1), 0);
        x.answer(0, 5, -1, 3);
        x.answer(0, 10, 2, 8);
        x.answer(0, 5, -1, 6);
        x.missing(0, 5, -1, 2);
        due.is("the persons stay", x.value(0, 10, 2), 8);
        due.is("the persons stay", x.value(0, 5, -1), 3);
    }

    private static void made() {
        HouseholdVault x = allKinds();
        x.household();
        x.answer(0, 5, -1, 1);
        int map = x.map(10);
        int sum = x.sum(8);
        due.is("answer of a map", x.answer(0, map, 0, 1), KIND);
        due.is("KIND ahead of a bad value", x.answer(0, sum, -1, Long.MAX_VALUE), KIND);
        due.is("a bad place ahead of KIND", x.answer(0, map, 1, 1), BAD);
        due.is("a bad place ahead of KIND", x.answer(0, sum, 0, 1), BAD);
        due.is("missing of a map", x.missing(0, map, 0, 1), KIND);
        due.is("a bad reason ahead of KIND", x.missing(0, map, 0, 0), BAD);
    }

    private static void missing() {
        HouseholdVault x = allKinds();
        x.household();
        x.answer(0, 5, -1, 2);
        for (int reason = 1; reason < 6; reason++) {
            x.answer(0, 2, -1, 5);
            due.is("missing", x.missing(0, 2, -1, reason), 1);
            due.is("reason", x.reason(0, 2, -1), reason);
            due.is("no value", x.value(0, 2, -1), 0);
            due.is("missing", x.missing(0, 8, 1, reason), 1);
            due.is("reason of a person", x.reason(0, 8, 1), reason);
            due.is("reason of another", x.reason(0, 8, 0), 1);
        }
        due.is("reason 0", x.missing(0, 2, -1, 0), BAD);
        due.is("reason 6", x.missing(0, 2, -1, 6), BAD);
        due.is("reason -1", x.missing(0, 2, -1, -1), BAD);
        due.is("a roster", x.missing(0, 5, -1, 1), KIND);
        due.is("a roster, BAD ahead", x.missing(0, 5, -1, 9), BAD);
    }

    private static void persons() {
        HouseholdVault x = allKinds();
        int other = x.question(5, -1);
        int inOther = x.question(2, other);
        x.household();
        x.household();
        x.answer(0, 5, -1, 5);
        x.answer(1, 5, -1, 5);
        x.answer(0, other, -1, 5);
        for (int person = 0; person < 5; person++) {
            x.answer(0, 8, person, 10 + person);
            x.missing(0, 9, person, 3);
            x.answer(1, 8, person, 20 + person);
            x.answer(0, inOther, person, 30 + person);
        }
        x.answer(0, 5, -1, 2);
        due.is("who stays", x.value(0, 8, 1), 11);
        due.is("who stays", x.reason(0, 9, 1), 3);
        due.is("who went", x.reason(0, 8, 2), BAD);
        x.answer(0, 5, -1, 4);
        due.is("who stayed", x.value(0, 8, 1), 11);
        due.is("who is new", x.reason(0, 8, 2), 1);
        due.is("who is new", x.value(0, 8, 2), 0);
        due.is("who is new", x.reason(0, 9, 3), 1);
        due.is("not there", x.reason(0, 8, 4), BAD);
        due.is("another household", x.value(1, 8, 4), 24);
        due.is("another roster", x.value(0, inOther, 4), 34);
        x.answer(0, 5, -1, 4);
        due.is("as many as before", x.value(0, 8, 0), 10);
        x.answer(0, 5, -1, 0);
        due.is("nobody", x.reason(0, 8, 0), BAD);
    }

    private static void laterQuestions() {
        HouseholdVault x = new HouseholdVault();
        x.household();
        int roster = x.question(5, -1);
        due.is("a later roster", x.reason(0, roster, -1), 0);
        due.is("a later roster", x.value(0, roster, -1), 0);
        x.answer(0, roster, -1, 2);
        int later = x.question(2, roster);
        due.is("a later question", x.reason(0, later, 1), 1);
        due.is("a later question at the top", x.reason(0, x.question(4, -1), -1), 1);
    }

    /** With all five there, what is told of them ends where the next question begins. */
    private static void fivePersons() {
        HouseholdVault x = new HouseholdVault();
        int roster = x.question(5, -1);
        int a = x.question(2, roster);
        int b = x.question(2, roster);
        int map = x.map(a);
        int c = x.question(2, -1);
        int sum = x.sum(a);
        x.row(map, 0, 99, 7);
        x.household();
        x.household();
        for (int h = 0; h < 2; h++) {
            x.answer(h, roster, -1, 5);
            for (int person = 0; person < 5; person++) x.answer(h, a, person, 10);
            x.answer(h, b, 0, 1000);
        }
        x.missing(0, c, -1, 3);
        due.is("a sum", x.value(0, sum, -1), 50);
        due.is("a map", x.value(0, map, 4), 7);
        due.is("behind the map", x.reason(0, c, -1), 3);
        due.is("all answers stay", x.value(0, b, 0), 1000);
        due.is("the last of them is not there", x.reason(0, b, 4), 1);
        x.mark(roster, true);
        x.answer(0, c, -1, 4);
        due.is("doubles", x.doubles(), 1);
        x.answer(1, a, 4, 11);
        due.is("no doubles", x.doubles(), 0);
        x.filter(b, x.ask(0, roster, 0));
        due.is("against", x.against(), 2);
        for (int person = 0; person < 5; person++) x.missing(0, b, person, 1);
        due.is("against", x.against(), 1);
    }
}
