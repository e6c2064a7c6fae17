/** The edges of what the document says of MADE QUESTIONS: terms of part 1, promises 4 to 7. */
final class MadeEdges {
    private static final int BAD = -1, KIND = -2, FULL = -4;
    private static final long CENTS_END = 1000000000000000L;
    private final Edges edges;

    MadeEdges(Edges edges) {
        this.edges = edges;
    }

    void look() {
        madeOnesAreNotAnswered();
        mapOfWhichKinds();
        rowsAre8AtMost();
        theFirstRowThatItIsIn();
        rowsAtTheEnds();
        codesOfAMapEachOnce();
        missingByFourOrAsThatIs();
        itLiesWhereThatLies();
        howManyPersons();
        sumOfAllValues();
        sumOfNone();
        sumBeyondAnInt();
        sumOfCents();
        mapTellsItsNumber();
        mapRefusals();
        rowTellsHowMany();
        rowBad();
        rowKindAndFull();
        rowChangesWhatIsAskedFromNowOn();
        howManyTellsItsNumber();
        howManyBad();
        howManyKind();
        sumTellsItsNumber();
        sumRefusals();
    }

    private void madeOnesAreNotAnswered() {
        edges.about("Terms", "MADE QUESTIONS tell ANSWERS of elder ones, and are not answered; "
            + "of KIND CODE (MAP) or WHOLE or CENTS.");
        for (int q : new int[] {Scene.MAP, Scene.SUM, Scene.HOW_MANY}) {
            edges.refused("answer " + q, Scene::crowd, x -> x.answer(0, q, -1, 1), KIND);
            edges.refused("missing " + q, Scene::crowd, x -> x.missing(0, q, -1, 1), KIND);
        }
        edges.refused("answer a MAP IN a ROSTER", Scene::crowd, x -> x.answer(0, Scene.MAP_IN, 0, 3), KIND);
        HouseholdVault x = Edges.built(Scene::crowd);
        edges.is("a MAP is a CODE", x.of(Scene.MAP, 0), 0);
        edges.is("HOW MANY is a WHOLE", x.of(Scene.HOW_MANY, 0), 2);
        edges.is("a SUM of WHOLE is a WHOLE", x.of(Scene.SUM, 0), 2);
        edges.is("a SUM of CENTS is CENTS", x.of(x.sum(Scene.CENTS_IN), 0), 3);
    }

    private void mapOfWhichKinds() {
        edges.about("Terms", "MAP of an elder QUESTION of KIND 0, 2, 3, 4,");
        HouseholdVault x = Edges.built(Scene::crowd);
        int made = Scene.QUESTIONS;
        for (int q : new int[] {Scene.CODE, Scene.WHOLE, Scene.CENTS, Scene.DAY}) edges.is("of " + q, x.map(q), made++);
        edges.is("of a MAP", x.map(Scene.MAP), made++);
        edges.is("of a SUM", x.map(Scene.SUM), made++);
        edges.is("of HOW MANY", x.map(Scene.HOW_MANY), made);
        for (int q : new int[] {Scene.CODES, Scene.ROSTER, Scene.CODES_IN}) {
            edges.refused("of " + q, Scene::crowd, y -> y.map(q), KIND);
        }
        edges.refused("of one that is not there yet", Scene::crowd, y -> y.map(Scene.QUESTIONS), BAD);
    }

    private static HouseholdVault mapOf(int kind) {
        HouseholdVault x = new HouseholdVault();
        x.question(kind, -1);
        x.map(0);
        x.household();
        return x;
    }

    private void rowsAre8AtMost() {
        edges.about("Terms", "with rows (8 at most):");
        HouseholdVault x = mapOf(2);
        for (int n = 1; n < 9; n++) edges.is("row " + n, x.row(1, n, n, 10 * n), n);
        edges.is("a ninth", x.row(1, 9, 9, 90), FULL);
        edges.is("a ninth with a CODE that is there", x.row(1, 9, 9, 10), FULL);
        for (int n = 1; n < 9; n++) {
            x.answer(0, 0, -1, n);
            edges.is("row " + n, x.value(0, 1, -1), 10 * n);
        }
        x.answer(0, 0, -1, 9);
        edges.is("the ninth is none", x.reason(0, 1, -1), 4);
        edges.is("its CODE is none", x.of(1, 2), 8);
    }

    private void theFirstRowThatItIsIn() {
        edges.about("Terms", "from low to high becomes a CODE");
        HouseholdVault x = mapOf(2);
        x.row(1, -3, 3, 7);
        int[] values = {-4, -3, 0, 3, 4};
        int[] codes = {0, 7, 7, 7, 0};
        for (int n = 0; n < 5; n++) {
            x.answer(0, 0, -1, values[n]);
            edges.is("of " + values[n], x.value(0, 1, -1), codes[n]);
            edges.is("of " + values[n], x.reason(0, 1, -1), codes[n] == 0 ? 4 : 0);
        }
        edges.about("Terms", "the CODE of the first row that the VALUE is in;");
        x.row(1, 3, 5, 8);
        x.row(1, -9, 9, 9);
        int[][] wanted = {{3, 7}, {4, 8}, {5, 8}, {6, 9}, {9, 9}, {-9, 9}, {-4, 9}, {-3, 7}};
        for (int[] pair : wanted) {
            x.answer(0, 0, -1, pair[0]);
            edges.is("of " + pair[0], x.value(0, 1, -1), pair[1]);
        }
        for (int outside : new int[] {10, -10}) {
            x.answer(0, 0, -1, outside);
            edges.is("of " + outside, x.reason(0, 1, -1), 4);
        }
    }

    /** One row for the least VALUE, one for the greatest: what is next to them is in none. */
    private void rowsAtTheEndsOf(int kind, long end, long otherEnd) {
        HouseholdVault x = mapOf(kind);
        x.row(1, Long.MIN_VALUE, end, -128);
        x.row(1, otherEnd, Long.MAX_VALUE, 127);
        long[] values = {end, end + 1, otherEnd - 1, otherEnd};
        int[] codes = {-128, 0, 0, 127};
        for (int n = 0; n < 4; n++) {
            edges.is("kind " + kind + " takes " + values[n], x.answer(0, 0, -1, values[n]), 1);
            edges.is("kind " + kind + " of " + values[n], x.value(0, 1, -1), codes[n]);
            edges.is("kind " + kind + " of " + values[n], x.reason(0, 1, -1), codes[n] == 0 ? 4 : 0);
        }
        edges.is("a row of all numbers", x.row(1, Long.MIN_VALUE, Long.MAX_VALUE, 1), 3);
        x.answer(0, 0, -1, end + 1);
        edges.is("of " + (end + 1), x.value(0, 1, -1), 1);
    }

    private void rowsAtTheEnds() {
        edges.about("Terms", "from low to high becomes a CODE (of its own;");
        rowsAtTheEndsOf(2, Integer.MIN_VALUE, Integer.MAX_VALUE);
        rowsAtTheEndsOf(3, -CENTS_END, CENTS_END);
        rowsAtTheEndsOf(4, -30000, 30000);
        HouseholdVault x = mapOf(2);
        x.row(1, 4294967296L, 4294967299L, 3);
        x.answer(0, 0, -1, 1);
        edges.is("a row beyond an int does not wrap around", x.reason(0, 1, -1), 4);
        HouseholdVault y = mapOf(0);
        y.code(0, -128);
        y.code(0, 127);
        y.row(1, -128, -128, 1);
        y.row(1, 127, 127, 2);
        y.answer(0, 0, -1, 127);
        edges.is("of a CODE itself, not of its number", y.value(0, 1, -1), 2);
        y.answer(0, 0, -1, -128);
        edges.is("of a CODE itself, not of its number", y.value(0, 1, -1), 1);
    }

    private void codesOfAMapEachOnce() {
        edges.about("Terms", "(of its own; it has these CODES in the order of rows, each once):");
        HouseholdVault x = mapOf(2);
        edges.is("none yet", x.of(1, 2), 0);
        int[] codes = {4, -128, 4, 127, -128, 4, 0, 127};
        int[] many = {1, 2, 2, 3, 3, 3, 4, 4};
        for (int n = 0; n < 8; n++) {
            edges.is("row", x.row(1, n, n, codes[n]), n + 1);
            edges.is("how many CODES", x.of(1, 2), many[n]);
        }
        int[] wanted = {4, -128, 127, 0, 1000};
        for (int i = 0; i < 5; i++) edges.is("CODE " + i, x.codeAt(1, i), wanted[i]);
        HouseholdVault y = mapOf(0);
        y.code(0, 5);
        y.row(1, 5, 5, 6);
        edges.is("not those of the other one", y.codeAt(1, 0), 6);
        edges.is("not those of the other one", y.codeAt(1, 1), 1000);
    }

    private void missingByFourOrAsThatIs() {
        edges.about("Terms", "MISSING by 4, if it is in none; MISSING as that is.");
        HouseholdVault x = mapOf(2);
        edges.is("at first", x.reason(0, 1, -1), 1);
        for (int reason = 1; reason < 6; reason++) {
            x.missing(0, 0, -1, reason);
            edges.is("as that is", x.reason(0, 1, -1), reason);
            edges.is("no VALUE", x.value(0, 1, -1), 0);
        }
        x.answer(0, 0, -1, 0);
        edges.is("no rows", x.reason(0, 1, -1), 4);
        x.row(1, 1, 5, 7);
        edges.is("in none", x.reason(0, 1, -1), 4);
        edges.is("no VALUE", x.value(0, 1, -1), 0);
        int second = x.map(1);
        x.row(second, -128, 127, 9);
        edges.is("a MAP of a MAP, as that is", x.reason(0, second, -1), 4);
        x.missing(0, 0, -1, 2);
        x.row(1, 0, 0, 8);
        edges.is("MISSING is in no row, though it tells 0", x.reason(0, 1, -1), 2);
        x.answer(0, 0, -1, 0);
        edges.is("0 is", x.value(0, 1, -1), 8);
        edges.is("and the MAP of it", x.value(0, second, -1), 9);
    }

    private void itLiesWhereThatLies() {
        edges.about("Terms", "It lies where that lies.");
        HouseholdVault x = Edges.built(Scene::crowd);
        edges.is("at the TOP", x.of(Scene.MAP, 1), -1);
        edges.is("IN the ROSTER", x.of(Scene.MAP_IN, 1), Scene.ROSTER);
        edges.is("a MAP of that", x.of(x.map(Scene.MAP_IN), 1), Scene.ROSTER);
        edges.is("of the first PERSON", x.value(0, Scene.MAP_IN, 0), 3);
        edges.is("of the last PERSON", x.reason(0, Scene.MAP_IN, 1), 4);
        edges.is("of one that is not there", x.reason(0, Scene.MAP_IN, 2), BAD);
        edges.is("of none", x.reason(0, Scene.MAP_IN, -1), BAD);
        edges.is("nobody is there", x.reason(2, Scene.MAP_IN, 0), BAD);
    }

    private void howManyPersons() {
        edges.about("Terms", "HOW MANY of a ROSTER by a CONDITION: a WHOLE at the TOP: of how many PERSONS it is so.");
        HouseholdVault x = new HouseholdVault();
        x.question(5, -1);
        x.question(4, 0);
        x.ask(0, 1, 30000);
        x.howMany(0, 0);
        x.logic(2, 0, 0);
        x.howMany(0, 1);
        x.household();
        edges.is("of nobody", x.value(0, 2, -1), 0);
        edges.is("of nobody it is not so", x.value(0, 3, -1), 0);
        edges.is("it is not MISSING", x.reason(0, 2, -1), 0);
        x.answer(0, 0, -1, 5);
        edges.is("of none of five", x.value(0, 2, -1), 0);
        edges.is("of all it is not so", x.value(0, 3, -1), 5);
        for (int person = 4; person >= 0; person--) {
            x.answer(0, 1, person, 30000);
            edges.is("so", x.value(0, 2, -1), 5 - person);
            edges.is("not so", x.value(0, 3, -1), person);
        }
        x.answer(0, 0, -1, 1);
        edges.is("of one", x.value(0, 2, -1), 1);
        x.answer(0, 0, -1, 2);
        edges.is("of two, of whom one is new", x.value(0, 2, -1), 1);
    }

    /** A ROSTER 0 with five PERSONS, WHOLE 1, CENTS 2, and their SUMS 3 and 4. */
    private static HouseholdVault sums() {
        HouseholdVault x = new HouseholdVault();
        x.question(5, -1);
        x.question(2, 0);
        x.question(3, 0);
        x.sum(1);
        x.sum(2);
        x.household();
        x.answer(0, 0, -1, 5);
        return x;
    }

    private void sumIs(String told, HouseholdVault x, int sum, long value, int reason) {
        edges.is(told + ", VALUE", x.value(0, sum, -1), value);
        edges.is(told + ", reason", x.reason(0, sum, -1), reason);
    }

    private void sumOfAllValues() {
        edges.about("Terms",
            "SUM of a QUESTION of KIND 2, 3 IN a ROSTER: at the TOP, of its KIND: all VALUES together;");
        HouseholdVault x = sums();
        x.answer(0, 1, 4, 7);
        sumIs("of the last alone", x, 3, 7, 0);
        x.answer(0, 1, 0, -7);
        sumIs("0 together is no reason to be MISSING", x, 3, 0, 0);
        x.missing(0, 1, 2, 5);
        sumIs("a MISSING one is left out", x, 3, 0, 0);
        for (int person = 0; person < 5; person++) x.answer(0, 1, person, 1 << person);
        sumIs("of five", x, 3, 31, 0);
        x.answer(0, 0, -1, 4);
        sumIs("of four", x, 3, 15, 0);
        edges.is("at the TOP", x.of(3, 1), -1);
        edges.is("no PERSON is there", x.reason(0, 3, 0), BAD);
    }

    private void sumOfNone() {
        edges.about("Terms", "MISSING by 5, if there are none,");
        HouseholdVault x = sums();
        sumIs("five are MISSING", x, 3, 0, 5);
        x.answer(0, 0, -1, 0);
        sumIs("nobody", x, 3, 0, 5);
        sumIs("nobody, of CENTS", x, 4, 0, 5);
        x.answer(0, 0, -1, 1);
        x.answer(0, 1, 0, 0);
        sumIs("one that is 0", x, 3, 0, 0);
        x.missing(0, 1, 0, 2);
        sumIs("it went", x, 3, 0, 5);
    }

    private void sumBeyondAnInt() {
        edges.about("Terms", "or they are beyond an int, a long.");
        HouseholdVault x = sums();
        x.answer(0, 1, 0, Integer.MAX_VALUE);
        x.answer(0, 1, 1, 0);
        sumIs("the greatest int", x, 3, Integer.MAX_VALUE, 0);
        x.answer(0, 1, 1, 1);
        sumIs("one more", x, 3, 0, 5);
        x.answer(0, 1, 2, -1);
        sumIs("all together are not beyond", x, 3, Integer.MAX_VALUE, 0);
        x.answer(0, 1, 0, Integer.MIN_VALUE);
        x.answer(0, 1, 1, 0);
        sumIs("one less than the least", x, 3, 0, 5);
        x.answer(0, 1, 1, 1);
        sumIs("the least int", x, 3, Integer.MIN_VALUE, 0);
        for (int person = 0; person < 4; person++) x.answer(0, 1, person, 1 << 30);
        x.answer(0, 1, 4, 6);
        sumIs("what would wrap around to 6", x, 3, 0, 5);
        x.answer(0, 1, 0, Integer.MIN_VALUE);
        x.answer(0, 1, 1, Integer.MIN_VALUE);
        for (int person = 2; person < 5; person++) x.answer(0, 1, person, 0);
        sumIs("what would wrap around to 0", x, 3, 0, 5);
        for (int person = 0; person < 5; person++) x.answer(0, 1, person, Integer.MAX_VALUE);
        sumIs("five times the greatest", x, 3, 0, 5);
        for (int person = 0; person < 5; person++) x.answer(0, 1, person, Integer.MIN_VALUE);
        sumIs("five times the least", x, 3, 0, 5);
    }

    private void sumOfCents() {
        edges.about("Terms", "beyond an int, a long.");
        HouseholdVault x = sums();
        x.answer(0, 2, 0, Integer.MAX_VALUE);
        x.answer(0, 2, 1, 1);
        sumIs("CENTS beyond an int", x, 4, Integer.MAX_VALUE + 1L, 0);
        for (int person = 0; person < 5; person++) x.answer(0, 2, person, CENTS_END);
        sumIs("the greatest that can be", x, 4, 5 * CENTS_END, 0);
        for (int person = 0; person < 5; person++) x.answer(0, 2, person, -CENTS_END);
        sumIs("the least that can be", x, 4, -5 * CENTS_END, 0);
    }

    private void mapTellsItsNumber() {
        edges.about("Promise 4", "A MAP of a QUESTION: its number.");
        HouseholdVault x = Edges.built(Scene::crowd);
        edges.is("a MAP", x.map(Scene.DAY), Scene.QUESTIONS);
        edges.is("another one of the same", x.map(Scene.DAY), Scene.QUESTIONS + 1);
        edges.is("MADE", x.of(Scene.QUESTIONS, 3), 1);
        edges.is("no rows, no CODES", x.of(Scene.QUESTIONS, 2), 0);
    }

    private void mapRefusals() {
        edges.about("Promise 4", "BAD; KIND; FULL.");
        for (int q : Edges.noneOf(Scene.QUESTIONS)) edges.refused("question " + q, Scene::crowd, x -> x.map(q), BAD);
        edges.refused("of CODES", Scene::crowd, x -> x.map(Scene.CODES), KIND);
        edges.refused("of a ROSTER", Scene::crowd, x -> x.map(Scene.ROSTER_2), KIND);
        edges.refused("one more", Scene::full, x -> x.map(Scene.WHOLE), FULL);
    }

    private void rowTellsHowMany() {
        edges.about("Promise 5", "A row more of a MAP: how many.");
        HouseholdVault x = Edges.built(Scene::crowd);
        edges.is("a third", x.row(Scene.MAP, 20, 20, 1), 3);
        edges.is("a fourth with the same CODE", x.row(Scene.MAP, 21, 21, 1), 4);
        edges.is("the same row again", x.row(Scene.MAP, 21, 21, 1), 5);
        edges.is("a second of another MAP", x.row(Scene.MAP_IN, 21, 21, 1), 2);
    }

    private void rowBad() {
        edges.about("Promise 5", "BAD: low above high, the CODE;");
        edges.refused("low above high", Scene::crowd, x -> x.row(Scene.MAP, -3, -4, 1), BAD);
        edges.refused("farthest", Scene::crowd, x -> x.row(Scene.MAP, Long.MAX_VALUE, Long.MIN_VALUE, 1), BAD);
        edges.refused("beyond an int", Scene::crowd, x -> x.row(Scene.MAP, 4294967296L, 5, 1), BAD);
        edges.is("low is high", Edges.built(Scene::crowd).row(Scene.MAP, -4, -4, 1), 3);
        for (int c : new int[] {Integer.MIN_VALUE, -129, 128, 256, Integer.MAX_VALUE}) {
            edges.refused("code " + c, Scene::crowd, x -> x.row(Scene.MAP, -4, -4, c), BAD);
        }
        edges.is("the least CODE", Edges.built(Scene::crowd).row(Scene.MAP, -4, -4, -128), 3);
        edges.is("the greatest CODE", Edges.built(Scene::crowd).row(Scene.MAP, -4, -4, 127), 3);
        for (int q : Edges.noneOf(Scene.QUESTIONS)) {
            edges.refused("question " + q, Scene::crowd, x -> x.row(q, -4, -4, 1), BAD);
        }
    }

    private void rowKindAndFull() {
        edges.about("Promise 5", "KIND: no MAP; FULL.");
        for (int q = 0; q < Scene.QUESTIONS; q++) {
            int one = q;
            if (q == Scene.MAP || q == Scene.MAP_IN) continue;
            edges.refused("question " + q, Scene::crowd, x -> x.row(one, -4, -4, 1), KIND);
        }
        edges.refused("a ninth", Scene::full, x -> x.row(Scene.MAP, -4, -4, 1), FULL);
        edges.is("another MAP is not full", Edges.built(Scene::full).row(Scene.MAP_IN, -4, -4, 1), 2);
    }

    private void rowChangesWhatIsAskedFromNowOn() {
        edges.about("Promise 5", "(Nothing that was made before is changed but what is asked from now on.)");
        HouseholdVault x = Edges.built(Scene::crowd);
        int second = x.map(Scene.MAP);
        x.row(second, 70, 70, 71);
        int asked = x.ask(0, Scene.MAP, 70);
        edges.is("before", x.reason(2, Scene.MAP, -1), 4);
        edges.is("before", x.holds(asked, 2, -1), 0);
        edges.is("before, MISSING", x.reason(0, Scene.MAP, -1), 3);
        edges.is("a TABLE", x.table(Scene.MAP, -1), 3);
        long weight = x.cell(2, 0, 1);
        edges.is("SHOWN", x.shown(3), 2);
        edges.is("a row", x.row(Scene.MAP, -9, -1, 70), 3);
        edges.is("the TABLE's rows", x.count(4), 3);
        edges.is("the TABLE's last cell", x.cell(2, 0, 0), 2);
        edges.is("the TABLE's last cell", x.cell(2, 0, 1), weight);
        edges.is("HELD BACK", x.cell(1, 0, 2), 1);
        edges.is("behind", x.value(2, Scene.MAP, -1), 70);
        edges.is("a MAP of it", x.value(2, second, -1), 71);
        edges.is("a CONDITION on it", x.holds(asked, 2, -1), 1);
        edges.is("a TABLE anew", x.table(Scene.MAP, -1), 4);
        edges.is("its last cell but one", x.cell(2, 0, 0), 1);
        edges.is("who was in a row stays there", x.value(1, Scene.MAP, -1), -60);
        HouseholdVault all = new HouseholdVault();
        all.question(2, -1);
        all.map(0);
        for (int h = 0; h < 40; h++) all.answer(all.household(), 0, -1, h);
        for (int h = 0; h < 40; h++) edges.is("before, of " + h, all.reason(h, 1, -1), 4);
        all.row(1, 0, 39, 5);
        for (int h = 0; h < 40; h++) edges.is("behind, of " + h, all.value(h, 1, -1), 5);
    }

    private void howManyTellsItsNumber() {
        edges.about("Promise 6", "HOW MANY of a ROSTER by a CONDITION: its number.");
        HouseholdVault x = Edges.built(Scene::crowd);
        edges.is("of the ROSTER", x.howMany(Scene.ROSTER, Scene.BOTH_IN), Scene.QUESTIONS);
        edges.is("of the other ROSTER", x.howMany(Scene.ROSTER_2, Scene.IN_ROSTER_2), Scene.QUESTIONS + 1);
        edges.is("MADE", x.of(Scene.QUESTIONS, 3), 2);
        edges.is("it tells", x.value(0, Scene.QUESTIONS + 1, -1), 1);
    }

    private void howManyBad() {
        edges.about("Promise 6", "BAD;");
        for (int q : Edges.noneOf(Scene.QUESTIONS)) {
            edges.refused("roster " + q, Scene::crowd, x -> x.howMany(q, Scene.IN_ROSTER), BAD);
        }
        for (int c : Edges.noneOf(Scene.CONDITIONS)) {
            edges.refused("condition " + c, Scene::crowd, x -> x.howMany(Scene.ROSTER, c), BAD);
        }
        edges.is("the last CONDITION", Edges.built(Scene::crowd).howMany(Scene.ROSTER_2, Scene.CONDITIONS - 1),
            Scene.QUESTIONS);
    }

    private void howManyKind() {
        edges.about("Promise 6", "KIND: no ROSTER, REACH is not that ROSTER; FULL.");
        for (int q = 0; q < Scene.QUESTIONS; q++) {
            int one = q;
            if (q == Scene.ROSTER || q == Scene.ROSTER_2) continue;
            edges.refused("of " + q, Scene::crowd, x -> x.howMany(one, Scene.IN_ROSTER), KIND);
        }
        edges.refused("it REACHES the TOP", Scene::crowd, x -> x.howMany(Scene.ROSTER, Scene.AT_TOP), KIND);
        edges.refused("SOME REACHES the TOP", Scene::crowd, x -> x.howMany(Scene.ROSTER, Scene.SOME_AT_TOP), KIND);
        edges.refused("it REACHES the other", Scene::crowd, x -> x.howMany(Scene.ROSTER, Scene.IN_ROSTER_2), KIND);
        edges.refused("it REACHES this one", Scene::crowd, x -> x.howMany(Scene.ROSTER_2, Scene.IN_ROSTER), KIND);
        edges.refused("one more", Scene::full, x -> x.howMany(Scene.ROSTER, Scene.IN_ROSTER), FULL);
    }

    private void sumTellsItsNumber() {
        edges.about("Promise 7", "A SUM: its number.");
        HouseholdVault x = Edges.built(Scene::crowd);
        edges.is("of CENTS", x.sum(Scene.CENTS_IN), Scene.QUESTIONS);
        edges.is("of WHOLE", x.sum(Scene.WHOLE_IN_2), Scene.QUESTIONS + 1);
        edges.is("MADE", x.of(Scene.QUESTIONS, 3), 3);
        edges.is("it tells", x.value(0, Scene.QUESTIONS + 1, -1), 1);
    }

    private void sumRefusals() {
        edges.about("Promise 7", "BAD; KIND; FULL.");
        for (int q : Edges.noneOf(Scene.QUESTIONS)) edges.refused("question " + q, Scene::crowd, x -> x.sum(q), BAD);
        for (int q = 0; q < Scene.QUESTIONS; q++) {
            int one = q;
            if (q == Scene.WHOLE_IN || q == Scene.CENTS_IN || q == Scene.WHOLE_IN_2) continue;
            edges.refused("of " + q, Scene::crowd, x -> x.sum(one), KIND);
        }
        edges.refused("one more", Scene::full, x -> x.sum(Scene.WHOLE_IN), FULL);
    }
}
