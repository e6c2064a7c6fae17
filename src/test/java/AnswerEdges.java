/** The edges of what the document says of HOUSEHOLDS and ANSWERS: terms of part 1, promises 10 to 14. */
final class AnswerEdges {
    private static final int BAD = -1, KIND = -2, FULL = -4;
    private static final long CENTS_END = 1000000000000000L, BEYOND_INT = 4294967296L;
    private final Edges edges;

    AnswerEdges(Edges edges) {
        this.edges = edges;
    }

    void look() {
        householdsAre40AtMost();
        places();
        reasons();
        valuesOfCode();
        valuesOfCodes();
        valuesOfWhole();
        valuesOfCents();
        valuesOfDay();
        valuesOfRoster();
        fewerPersons();
        morePersons();
        householdTellsItsNumber();
        answerBecomesAValue();
        answerBadPlace();
        answerKind();
        answerBadValue();
        missingByAReason();
        missingBad();
        missingKind();
        valueAtAPlace();
        valueOfNone();
        reasonAtAPlace();
        reasonBad();
    }

    private void householdsAre40AtMost() {
        edges.about("Terms", "HOUSEHOLDS are numbered from 0, 40 at most.");
        HouseholdVault x = Edges.built(Scene::kinds);
        edges.is("none yet", x.reason(0, Scene.WHOLE, -1), BAD);
        for (int h = 0; h < 40; h++) {
            edges.is("household " + h, x.household(), h);
            edges.is("it is there", x.reason(h, Scene.WHOLE, -1), 1);
            edges.is("the next is not", x.reason(h + 1, Scene.WHOLE, -1), BAD);
        }
        edges.is("a 41st", x.household(), FULL);
        edges.is("the last one answers", x.answer(39, Scene.WHOLE, -1, 7), 1);
        edges.is("a 41st does not", x.answer(40, Scene.WHOLE, -1, 7), BAD);
        edges.is("how many", x.count(1), 40);
    }

    /** Two PERSONS IN the ROSTER of household 0, five of household 1, none of household 2. */
    private static void homes(HouseholdVault x) {
        Scene.kinds(x);
        for (int h = 0; h < 3; h++) x.household();
        x.answer(0, Scene.ROSTER, -1, 2);
        x.answer(1, Scene.ROSTER, -1, 5);
    }

    private void places() {
        edges.about("Terms", "A PLACE is a HOUSEHOLD, a QUESTION, and, for one IN a ROSTER, a PERSON (0, 1, ..) "
            + "that the HOUSEHOLD has there; at the TOP the PERSON is -1.");
        HouseholdVault x = Edges.built(AnswerEdges::homes);
        int[] persons = {2, 5, 0};
        for (int h = 0; h < 3; h++) {
            for (int person = -2; person < 7; person++) {
                boolean isThere = person >= 0 && person < persons[h];
                String at = " " + person + " of household " + h;
                edges.is("IN the ROSTER, person" + at, x.reason(h, Scene.DAY_IN, person), isThere ? 1 : BAD);
                edges.is("at the TOP, person" + at, x.reason(h, Scene.DAY, person), person == -1 ? 1 : BAD);
                edges.is("the ROSTER itself, person" + at, x.reason(h, Scene.ROSTER, person), person == -1 ? 0 : BAD);
            }
        }
        for (int q = 6; q < 11; q++) {
            for (int person = 0; person < 5; person++) x.missing(1, q, person, 1 + (q + person) % 5);
        }
        for (int q = 6; q < 11; q++) {
            for (int person = 0; person < 5; person++) {
                edges.is("each PLACE has its own", x.reason(1, q, person), 1 + (q + person) % 5);
            }
        }
        edges.is("person MIN", x.reason(1, Scene.DAY_IN, Integer.MIN_VALUE), BAD);
        edges.is("person MAX", x.reason(1, Scene.DAY_IN, Integer.MAX_VALUE), BAD);
        edges.is("person MIN at the TOP", x.reason(1, Scene.DAY, Integer.MIN_VALUE), BAD);
        edges.is("person MAX at the TOP", x.reason(1, Scene.DAY, Integer.MAX_VALUE), BAD);
    }

    private void reasons() {
        edges.about("Terms", "An ANSWER is MISSING by a reason (1 .. 5; 1 at first), or a VALUE:");
        HouseholdVault x = Edges.built(AnswerEdges::homes);
        for (int q = 0; q < 5; q++) edges.is("at first", x.reason(0, q, -1), 1);
        for (int q = 6; q < 11; q++) edges.is("at first", x.reason(0, q, 1), 1);
        edges.is("reason 0", x.missing(0, Scene.WHOLE, -1, 0), BAD);
        for (int reason = 1; reason < 6; reason++) {
            edges.is("reason " + reason, x.missing(0, Scene.WHOLE, -1, reason), 1);
            edges.is("reason " + reason, x.reason(0, Scene.WHOLE, -1), reason);
            edges.is("no VALUE", x.value(0, Scene.WHOLE, -1), 0);
        }
        edges.is("reason 6", x.missing(0, Scene.WHOLE, -1, 6), BAD);
        edges.is("it is as it was", x.reason(0, Scene.WHOLE, -1), 5);
        x.answer(0, Scene.WHOLE, -1, 0);
        edges.is("a VALUE, though 0", x.reason(0, Scene.WHOLE, -1), 0);
    }

    private void takes(HouseholdVault x, int q, int person, long... values) {
        for (long v : values) {
            String told = "question " + q + ", " + v;
            edges.is(told + " is taken", x.answer(0, q, person, v), 1);
            edges.is(told + " is told", x.value(0, q, person), v);
            edges.is(told + " is not MISSING", x.reason(0, q, person), 0);
        }
    }

    /** A refused VALUE leaves what is there. */
    private void refuses(HouseholdVault x, int q, int person, long... values) {
        long was = x.value(0, q, person);
        int reason = x.reason(0, q, person);
        for (long v : values) {
            String told = "question " + q + ", " + v;
            edges.is(told + " is refused", x.answer(0, q, person, v), BAD);
            edges.is(told + " is not told", x.value(0, q, person), was);
            edges.is(told + " changes no reason", x.reason(0, q, person), reason);
        }
    }

    private void valuesOfCode() {
        edges.about("Terms", "of CODE one of its CODES;");
        HouseholdVault x = Edges.built(AnswerEdges::homes);
        refuses(x, Scene.CODE, -1, 0, 1, -1);
        x.code(Scene.CODE, -128);
        x.code(Scene.CODE, 127);
        x.code(Scene.CODE_IN, 3);
        takes(x, Scene.CODE, -1, -128, 127);
        refuses(x, Scene.CODE, -1, -129, -127, 126, 128, 0, 1, 3, -128 + 256, 127 - 256, BEYOND_INT - 128,
            BEYOND_INT + 127, -BEYOND_INT + 127, Long.MIN_VALUE, Long.MAX_VALUE);
        takes(x, Scene.CODE_IN, 1, 3);
        refuses(x, Scene.CODE_IN, 1, 2, 4, 127, BEYOND_INT + 3);
    }

    private void valuesOfCodes() {
        edges.about("Terms", "of CODES a set of these, told by bits (bit i is CODE i);");
        HouseholdVault x = Edges.built(AnswerEdges::homes);
        refuses(x, Scene.CODES, -1, 1, -1);
        takes(x, Scene.CODES, -1, 0);
        for (int n = 1; n < 9; n++) {
            x.code(Scene.CODES, -n);
            takes(x, Scene.CODES, -1, (1 << n) - 1, 1 << n - 1, 0);
            refuses(x, Scene.CODES, -1, 1 << n, -1);
        }
        refuses(x, Scene.CODES, -1, 511, -255, BEYOND_INT, BEYOND_INT + 1, 1L << 62, Long.MIN_VALUE, Long.MAX_VALUE);
        takes(x, Scene.CODES, -1, 255);
        takes(x, Scene.CODES_IN, 1, 0);
        refuses(x, Scene.CODES_IN, 1, 1);
    }

    private void valuesOfWhole() {
        edges.about("Terms", "of WHOLE an int;");
        HouseholdVault x = Edges.built(AnswerEdges::homes);
        takes(x, Scene.WHOLE, -1, Integer.MIN_VALUE, Integer.MAX_VALUE, -1, 0, 1);
        refuses(x, Scene.WHOLE, -1, Integer.MIN_VALUE - 1L, Integer.MAX_VALUE + 1L, BEYOND_INT, BEYOND_INT + 1,
            -BEYOND_INT, Long.MIN_VALUE, Long.MAX_VALUE);
        takes(x, Scene.WHOLE_IN, 1, Integer.MIN_VALUE, Integer.MAX_VALUE);
        refuses(x, Scene.WHOLE_IN, 1, Integer.MIN_VALUE - 1L, Integer.MAX_VALUE + 1L);
    }

    private void valuesOfCents() {
        edges.about("Terms", "of CENTS a long, 1000000000000000 at most in size;");
        HouseholdVault x = Edges.built(AnswerEdges::homes);
        takes(x, Scene.CENTS, -1, CENTS_END, -CENTS_END, Integer.MAX_VALUE + 1L, BEYOND_INT, -1, 0);
        refuses(x, Scene.CENTS, -1, CENTS_END + 1, -CENTS_END - 1, Long.MAX_VALUE, Long.MIN_VALUE,
            Long.MIN_VALUE + 1);
        takes(x, Scene.CENTS_IN, 1, CENTS_END, -CENTS_END);
        refuses(x, Scene.CENTS_IN, 1, CENTS_END + 1, -CENTS_END - 1);
    }

    private void valuesOfDay() {
        edges.about("Terms", "of DAY -30000 .. 30000;");
        HouseholdVault x = Edges.built(AnswerEdges::homes);
        takes(x, Scene.DAY, -1, -30000, 30000, 0, -29999, 29999);
        refuses(x, Scene.DAY, -1, -30001, 30001, BEYOND_INT, BEYOND_INT + 30000, 65536, Long.MIN_VALUE, Long.MAX_VALUE);
        takes(x, Scene.DAY_IN, 1, -30000, 30000);
        refuses(x, Scene.DAY_IN, 1, -30001, 30001);
    }

    private void valuesOfRoster() {
        edges.about("Terms", "of ROSTER how many PERSONS there are, 0 .. 5: at first 0 (it is never MISSING).");
        HouseholdVault x = Edges.built(Scene::kinds);
        x.household();
        edges.is("at first", x.value(0, Scene.ROSTER, -1), 0);
        edges.is("it is not MISSING", x.reason(0, Scene.ROSTER, -1), 0);
        edges.is("nobody is there", x.reason(0, Scene.WHOLE_IN, 0), BAD);
        for (int persons = 0; persons < 6; persons++) {
            takes(x, Scene.ROSTER, -1, persons);
            if (persons > 0) edges.is("the last", x.reason(0, Scene.WHOLE_IN, persons - 1), 1);
            edges.is("behind the last", x.reason(0, Scene.WHOLE_IN, persons), BAD);
        }
        refuses(x, Scene.ROSTER, -1, -1, 6, BEYOND_INT, BEYOND_INT + 3, Long.MIN_VALUE, Long.MAX_VALUE);
        edges.is("it cannot be MISSING", x.missing(0, Scene.ROSTER, -1, 1), KIND);
        int later = x.question(5, -1);
        edges.is("one that comes behind a HOUSEHOLD", x.value(0, later, -1), 0);
        edges.is("one that comes behind a HOUSEHOLD", x.reason(0, later, -1), 0);
    }

    private static HouseholdVault fiveWithAnswers() {
        HouseholdVault x = Edges.built(AnswerEdges::homes);
        x.code(Scene.CODES_IN, 1);
        for (int person = 0; person < 5; person++) {
            x.answer(1, Scene.WHOLE_IN, person, 10 + person);
            x.missing(1, Scene.DAY_IN, person, 3);
            x.answer(1, Scene.CODES_IN, person, 1);
        }
        return x;
    }

    private void fewerPersons() {
        edges.about("Terms", "Fewer PERSONS: ANSWERS of those behind go;");
        for (int kept = 0; kept < 5; kept++) {
            HouseholdVault x = fiveWithAnswers();
            x.answer(1, Scene.ROSTER, -1, kept);
            for (int person = 0; person < 5; person++) {
                boolean stays = person < kept;
                String told = "person " + person + " of " + kept;
                edges.is(told, x.value(1, Scene.WHOLE_IN, person), stays ? 10 + person : 0);
                edges.is(told, x.reason(1, Scene.WHOLE_IN, person), stays ? 0 : BAD);
                edges.is(told, x.reason(1, Scene.DAY_IN, person), stays ? 3 : BAD);
            }
            edges.is("another HOUSEHOLD has its PERSONS", x.reason(0, Scene.WHOLE_IN, 1), 1);
        }
        HouseholdVault x = fiveWithAnswers();
        x.answer(1, Scene.ROSTER, -1, 5);
        edges.is("as many as before: none goes", x.value(1, Scene.WHOLE_IN, 4), 14);
        x.answer(1, Scene.ROSTER, -1, 6);
        edges.is("a refused number: none goes", x.value(1, Scene.WHOLE_IN, 4), 14);
    }

    private void morePersons() {
        edges.about("Terms", "more: theirs are MISSING by 1.");
        for (int kept = 0; kept < 5; kept++) {
            HouseholdVault x = fiveWithAnswers();
            x.answer(1, Scene.ROSTER, -1, kept);
            x.answer(1, Scene.ROSTER, -1, 5);
            for (int person = 0; person < 5; person++) {
                boolean stayed = person < kept;
                String told = "person " + person + ", of whom " + kept + " stayed";
                edges.is(told, x.value(1, Scene.WHOLE_IN, person), stayed ? 10 + person : 0);
                edges.is(told, x.reason(1, Scene.WHOLE_IN, person), stayed ? 0 : 1);
                edges.is(told, x.reason(1, Scene.DAY_IN, person), stayed ? 3 : 1);
                edges.is(told, x.reason(1, Scene.CODES_IN, person), stayed ? 0 : 1);
            }
        }
    }

    private void householdTellsItsNumber() {
        edges.about("Promise 10", "A HOUSEHOLD: its number. FULL.");
        HouseholdVault x = new HouseholdVault();
        edges.is("without QUESTIONS", x.household(), 0);
        edges.is("the next", x.household(), 1);
        edges.is("of a crowd", Edges.built(Scene::crowd).household(), Scene.HOUSEHOLDS);
        edges.refused("a 41st", Scene::full, y -> y.household(), FULL);
        HouseholdVault last = new HouseholdVault();
        for (int h = 0; h < 39; h++) last.household();
        edges.is("the 40th", last.household(), 39);
    }

    private void answerBecomesAValue() {
        edges.about("Promise 11", "An ANSWER becomes a VALUE: 1.");
        HouseholdVault x = Edges.built(Scene::crowd);
        edges.is("what was MISSING", x.answer(2, Scene.CODE, -1, -6), 1);
        edges.is("it is", x.value(2, Scene.CODE, -1), -6);
        edges.is("what was a VALUE", x.answer(1, Scene.CODE, -1, 5), 1);
        edges.is("it is", x.value(1, Scene.CODE, -1), 5);
        edges.is("the same again", x.answer(1, Scene.CODE, -1, 5), 1);
        edges.is("against a FILTER", x.answer(0, Scene.DAY, -1, 5), 1);
        edges.is("the last HOUSEHOLD of a full vault", Edges.built(Scene::full).answer(39, 4, -1, 5), 1);
    }

    private void answerBadPlace() {
        edges.about("Promise 11", "BAD: the PLACE;");
        for (int h : Edges.noneOf(Scene.HOUSEHOLDS)) {
            edges.refused("household " + h, Scene::crowd, x -> x.answer(h, Scene.WHOLE, -1, 0), BAD);
        }
        for (int q : Edges.noneOf(Scene.QUESTIONS)) {
            edges.refused("question " + q, Scene::crowd, x -> x.answer(0, q, -1, 0), BAD);
        }
        for (int person : new int[] {Integer.MIN_VALUE, -2, 0, 1, 4, 5, Integer.MAX_VALUE}) {
            edges.refused("person " + person + " at the TOP", Scene::crowd,
                x -> x.answer(0, Scene.WHOLE, person, 0), BAD);
        }
        for (int person : Edges.noneOf(2)) {
            edges.refused("person " + person + " of two", Scene::crowd,
                x -> x.answer(0, Scene.WHOLE_IN, person, 0), BAD);
        }
        edges.refused("person 0 of none", Scene::crowd, x -> x.answer(2, Scene.WHOLE_IN, 0, 0), BAD);
        edges.refused("a PERSON that went", x -> {
            Scene.crowd(x);
            x.answer(0, Scene.ROSTER, -1, 1);
        }, x -> x.answer(0, Scene.WHOLE_IN, 1, 0), BAD);
    }

    private void answerKind() {
        edges.about("Promise 11", "then KIND: MADE;");
        for (int q : new int[] {Scene.MAP, Scene.SUM, Scene.HOW_MANY}) {
            edges.refused("MADE " + q, Scene::crowd, x -> x.answer(0, q, -1, 0), KIND);
            edges.refused("no PERSON is there", Scene::crowd, x -> x.answer(0, q, 0, 0), BAD);
        }
        edges.refused("a MAP IN a ROSTER", Scene::crowd, x -> x.answer(0, Scene.MAP_IN, 1, 3), KIND);
        edges.refused("person 2 of two", Scene::crowd, x -> x.answer(0, Scene.MAP_IN, 2, 3), BAD);
    }

    private void answerBadValue() {
        edges.about("Promise 11", "then BAD: the VALUE.");
        edges.refused("MADE comes first", Scene::crowd, x -> x.answer(0, Scene.MAP, -1, Long.MAX_VALUE), KIND);
        edges.refused("a CODE of another one", Scene::crowd, x -> x.answer(0, Scene.CODE, -1, 7), BAD);
        edges.refused("a set with one too many", Scene::crowd, x -> x.answer(0, Scene.CODES, -1, 8), BAD);
        edges.refused("beyond an int", Scene::crowd, x -> x.answer(1, Scene.WHOLE, -1, 2147483648L), BAD);
        edges.refused("CENTS", Scene::crowd, x -> x.answer(0, Scene.CENTS, -1, CENTS_END + 1), BAD);
        edges.refused("a DAY", Scene::crowd, x -> x.answer(2, Scene.DAY, -1, -30001), BAD);
        edges.refused("six PERSONS", Scene::crowd, x -> x.answer(0, Scene.ROSTER, -1, 6), BAD);
        edges.refused("fewer than no PERSONS", Scene::crowd, x -> x.answer(0, Scene.ROSTER, -1, -1), BAD);
        edges.refused("IN a ROSTER", Scene::crowd, x -> x.answer(0, Scene.DAY_IN, 1, 30001), BAD);
    }

    private void missingByAReason() {
        edges.about("Promise 12", "An ANSWER is MISSING by a reason: 1.");
        HouseholdVault x = Edges.built(Scene::crowd);
        edges.is("what was a VALUE", x.missing(1, Scene.WHOLE, -1, 5), 1);
        edges.is("its reason", x.reason(1, Scene.WHOLE, -1), 5);
        edges.is("its VALUE", x.value(1, Scene.WHOLE, -1), 0);
        edges.is("what was MISSING", x.missing(1, Scene.WHOLE, -1, 1), 1);
        edges.is("its reason", x.reason(1, Scene.WHOLE, -1), 1);
        edges.is("of the last PERSON", x.missing(0, Scene.WHOLE_IN, 1, 4), 1);
        edges.is("of that one alone", x.reason(0, Scene.WHOLE_IN, 0), 0);
    }

    private void missingBad() {
        edges.about("Promise 12", "BAD;");
        for (int h : Edges.noneOf(Scene.HOUSEHOLDS)) {
            edges.refused("household " + h, Scene::crowd, x -> x.missing(h, Scene.WHOLE, -1, 2), BAD);
        }
        for (int q : Edges.noneOf(Scene.QUESTIONS)) {
            edges.refused("question " + q, Scene::crowd, x -> x.missing(0, q, -1, 2), BAD);
        }
        for (int person : new int[] {Integer.MIN_VALUE, -2, 0, Integer.MAX_VALUE}) {
            edges.refused("person " + person + " at the TOP", Scene::crowd,
                x -> x.missing(1, Scene.WHOLE, person, 2), BAD);
        }
        for (int person : Edges.noneOf(2)) {
            edges.refused("person " + person, Scene::crowd, x -> x.missing(0, Scene.WHOLE_IN, person, 2), BAD);
        }
        for (int reason : new int[] {Integer.MIN_VALUE, -1, 0, 6, Integer.MAX_VALUE}) {
            edges.refused("reason " + reason, Scene::crowd, x -> x.missing(1, Scene.WHOLE, -1, reason), BAD);
            edges.refused("reason " + reason, Scene::crowd, x -> x.missing(0, Scene.WHOLE_IN, 1, reason), BAD);
        }
    }

    private void missingKind() {
        edges.about("Promise 12", "KIND: MADE, a ROSTER.");
        for (int q : new int[] {Scene.MAP, Scene.SUM, Scene.HOW_MANY, Scene.ROSTER, Scene.ROSTER_2}) {
            edges.refused("question " + q, Scene::crowd, x -> x.missing(0, q, -1, 2), KIND);
        }
        edges.refused("a MAP IN a ROSTER", Scene::crowd, x -> x.missing(0, Scene.MAP_IN, 0, 2), KIND);
    }

    private void valueAtAPlace() {
        edges.about("Promise 13", "The VALUE at a PLACE;");
        HouseholdVault x = Edges.built(Scene::crowd);
        edges.is("CODES", x.value(0, Scene.CODES, -1), 5);
        edges.is("CENTS", x.value(0, Scene.CENTS, -1), 100000);
        edges.is("the first PERSON", x.value(0, Scene.WHOLE_IN, 0), 4);
        edges.is("the last PERSON", x.value(0, Scene.WHOLE_IN, 1), -2);
        edges.is("MADE", x.value(0, Scene.SUM, -1), 2);
    }

    private void valueOfNone() {
        edges.about("Promise 13", "0: it is MISSING, BAD.");
        edges.is("MISSING", Edges.built(Scene::crowd).value(0, Scene.WHOLE, -1), 0);
        edges.is("MADE and MISSING", Edges.built(Scene::crowd).value(2, Scene.SUM, -1), 0);
        for (int h : Edges.noneOf(Scene.HOUSEHOLDS)) {
            edges.refused("household " + h, Scene::crowd, x -> x.value(h, Scene.WHOLE, -1), 0);
        }
        for (int q : Edges.noneOf(Scene.QUESTIONS)) {
            edges.refused("question " + q, Scene::crowd, x -> x.value(0, q, -1), 0);
        }
        for (int person : Edges.noneOf(2)) {
            edges.refused("person " + person, Scene::crowd, x -> x.value(0, Scene.WHOLE_IN, person), 0);
        }
        edges.refused("person 0 at the TOP", Scene::crowd, x -> x.value(1, Scene.WHOLE, 0), 0);
        edges.refused("person -2 at the TOP", Scene::crowd, x -> x.value(1, Scene.WHOLE, -2), 0);
    }

    private void reasonAtAPlace() {
        edges.about("Promise 14", "The reason for which it is MISSING; 0: it is not.");
        HouseholdVault x = Edges.built(Scene::crowd);
        edges.is("MISSING", x.reason(0, Scene.WHOLE, -1), 3);
        edges.is("MISSING at first", x.reason(1, Scene.DAY, -1), 1);
        edges.is("in no row", x.reason(2, Scene.MAP, -1), 4);
        edges.is("no VALUES", x.reason(2, Scene.SUM, -1), 5);
        edges.is("a VALUE", x.reason(1, Scene.WHOLE, -1), 0);
        edges.is("a ROSTER", x.reason(2, Scene.ROSTER, -1), 0);
        edges.is("MADE", x.reason(0, Scene.SUM, -1), 0);
    }

    private void reasonBad() {
        edges.about("Promise 14", "BAD.");
        for (int h : Edges.noneOf(Scene.HOUSEHOLDS)) {
            edges.refused("household " + h, Scene::crowd, x -> x.reason(h, Scene.WHOLE, -1), BAD);
        }
        for (int q : Edges.noneOf(Scene.QUESTIONS)) {
            edges.refused("question " + q, Scene::crowd, x -> x.reason(0, q, -1), BAD);
        }
        for (int person : Edges.noneOf(2)) {
            edges.refused("person " + person, Scene::crowd, x -> x.reason(0, Scene.WHOLE_IN, person), BAD);
            edges.refused("person " + person + " of a MAP", Scene::crowd, x -> x.reason(0, Scene.MAP_IN, person), BAD);
        }
        edges.refused("person 0 at the TOP", Scene::crowd, x -> x.reason(1, Scene.WHOLE, 0), BAD);
        edges.refused("person -2 at the TOP", Scene::crowd, x -> x.reason(1, Scene.WHOLE, -2), BAD);
    }
}
