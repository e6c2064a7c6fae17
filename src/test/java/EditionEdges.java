/** The edges of what the document says of EDITIONS: terms of part 4, promises 34 to 40. */
final class EditionEdges {
    private static final int BAD = -1, FULL = -4, NO_ENTRY = -2;
    private static final long CENTS_END = 1000000000000000L;
    private final Edges edges;

    EditionEdges(Edges edges) {
        this.edges = edges;
    }

    void look() {
        editionsAre6AtMost();
        editionsKeepWhatIsThere();
        editionsKeepNothingMade();
        changesOfPlacesInOne();
        changesOfPlacesInBoth();
        aPersonThatIsNotThere();
        changesInOrder();
        changesOfThoseInBothAlone();
        freezeTells();
        frozenTells();
        frozenOfNone();
        frozenReasonTells();
        frozenReasonBad();
        changesTells();
        changesBad();
        changeAtTells();
        changeAtBad();
        mergeAtTheTop();
        mergeOfPersons();
        mergeBecomesWhatItWas();
        mergeBad();
        countTells();
        countBad();
    }

    private void editionsAre6AtMost() {
        edges.about("Terms", "EDITIONS (6 at most)");
        HouseholdVault x = new HouseholdVault();
        x.question(2, -1);
        x.household();
        edges.is("none yet", x.merge(0), BAD);
        for (int e = 0; e < 6; e++) {
            x.answer(0, 0, -1, e);
            edges.is("edition " + e, x.freeze(), e);
            edges.is("it is there", x.frozen(e, 0, 0, -1), e);
            edges.is("the next is not", x.merge(e + 1), BAD);
        }
        x.answer(0, 0, -1, 6);
        edges.is("a seventh", x.freeze(), FULL);
        edges.is("no number 6", x.frozenReason(6, 0, 0, -1), BAD);
        for (int e = 0; e < 6; e++) edges.is("each is as it was", x.frozen(e, 0, 0, -1), e);
        edges.is("how many", x.count(3), 6);
    }

    private void editionsKeepWhatIsThere() {
        edges.about("Terms", "keep all ANSWERS of HOUSEHOLDS and QUESTIONS that are there,");
        HouseholdVault x = new HouseholdVault();
        edges.is("of nothing", x.freeze(), 0);
        x.question(5, -1);
        x.question(3, 0);
        x.question(4, -1);
        x.household();
        x.answer(0, 0, -1, 5);
        x.answer(0, 1, 0, CENTS_END);
        x.answer(0, 1, 4, -CENTS_END);
        x.missing(0, 1, 3, 5);
        x.answer(0, 2, -1, -30000);
        x.freeze();
        x.question(2, -1);
        x.household();
        x.answer(0, 0, -1, 0);
        x.missing(0, 2, -1, 2);
        edges.is("the first PERSON", x.frozen(1, 0, 1, 0), CENTS_END);
        edges.is("the last PERSON", x.frozen(1, 0, 1, 4), -CENTS_END);
        edges.is("MISSING", x.frozenReason(1, 0, 1, 3), 5);
        edges.is("MISSING at first", x.frozenReason(1, 0, 1, 1), 1);
        edges.is("a ROSTER", x.frozen(1, 0, 0, -1), 5);
        edges.is("a DAY", x.frozen(1, 0, 2, -1), -30000);
        edges.is("a QUESTION that came later", x.frozenReason(1, 0, 3, -1), BAD);
        edges.is("a HOUSEHOLD that came later", x.frozenReason(1, 1, 2, -1), BAD);
        edges.is("there was nothing", x.frozenReason(0, 0, 0, -1), BAD);
        x.answer(0, 0, -1, 5);
        edges.is("they are new, the EDITION keeps those that went", x.frozen(1, 0, 1, 0), CENTS_END);
    }

    private void editionsKeepNothingMade() {
        edges.about("Terms", "QUESTIONS that are there, not MADE.");
        HouseholdVault x = Edges.built(Scene::crowd);
        for (int q : new int[] {Scene.MAP, Scene.SUM, Scene.HOW_MANY}) {
            edges.is("MADE " + q, x.frozen(0, 0, q, -1), 0);
            edges.is("MADE " + q, x.frozenReason(0, 0, q, -1), BAD);
        }
        edges.is("MADE IN a ROSTER", x.frozenReason(0, 0, Scene.MAP_IN, 0), BAD);
    }

    private void changesAre(String told, HouseholdVault x, int e, int f, int[]... wanted) {
        edges.is(told + ", how many", x.changes(e, f), wanted.length);
        for (int k = 0; k < wanted.length; k++) {
            for (int what = 0; what < 3; what++) {
                edges.is(told + ", change " + k + ", " + what, x.changeAt(e, f, k, what), wanted[k][what]);
            }
        }
        edges.is(told + ", behind the last", x.changeAt(e, f, wanted.length, 0), NO_ENTRY);
    }

    private static int[] place(int h, int q, int person) {
        return new int[] {h, q, person};
    }

    private void changesOfPlacesInOne() {
        edges.about("Terms", "CHANGES of EDITION e to f: PLACES that are in one of both,");
        HouseholdVault x = new HouseholdVault();
        x.question(5, -1);
        x.question(2, 0);
        x.household();
        x.freeze();
        x.answer(0, 0, -1, 5);
        x.freeze();
        int[][] all = {place(0, 0, -1), place(0, 1, 0), place(0, 1, 1), place(0, 1, 2), place(0, 1, 3), place(0, 1, 4)};
        changesAre("five came", x, 0, 1, all);
        changesAre("five went", x, 1, 0, all);
        x.answer(0, 0, -1, 4);
        x.freeze();
        changesAre("the last went", x, 1, 2, place(0, 0, -1), place(0, 1, 4));
        x.answer(0, 0, -1, 5);
        x.freeze();
        changesAre("one in its place is like it", x, 1, 3);
    }

    private void changesOfPlacesInBoth() {
        edges.about("Terms", "or in both with unlike ANSWERS");
        HouseholdVault x = new HouseholdVault();
        x.question(3, -1);
        x.household();
        x.answer(0, 0, -1, 0);
        x.freeze();
        changesAre("to itself", x, 0, 0);
        x.freeze();
        changesAre("nothing has changed", x, 0, 1);
        x.missing(0, 0, -1, 1);
        x.freeze();
        changesAre("0 is not MISSING", x, 1, 2, place(0, 0, -1));
        x.missing(0, 0, -1, 2);
        x.freeze();
        changesAre("unlike reasons", x, 2, 3, place(0, 0, -1));
        x.answer(0, 0, -1, 4294967296L);
        x.freeze();
        changesAre("unlike by what an int leaves out", x, 0, 4, place(0, 0, -1));
        x.answer(0, 0, -1, 0);
        x.freeze();
        changesAre("as it was", x, 0, 5);
    }

    private void aPersonThatIsNotThere() {
        edges.about("Terms", "(a PERSON that is not there is MISSING by 0):");
        HouseholdVault x = new HouseholdVault();
        x.question(5, -1);
        x.question(2, 0);
        x.household();
        x.answer(0, 0, -1, 2);
        x.answer(0, 1, 0, 0);
        x.freeze();
        x.answer(0, 0, -1, 0);
        x.freeze();
        changesAre("neither 0 nor MISSING by 1 is like it", x, 0, 1, place(0, 0, -1), place(0, 1, 0), place(0, 1, 1));
        x.freeze();
        changesAre("in none of both", x, 1, 2);
    }

    private void changesInOrder() {
        edges.about("Terms", "by HOUSEHOLDS, QUESTIONS, PERSONS; of those");
        HouseholdVault x = new HouseholdVault();
        x.question(2, -1);
        x.question(5, -1);
        x.question(2, 1);
        x.question(2, -1);
        for (int h = 0; h < 2; h++) x.answer(x.household(), 1, -1, 2);
        x.freeze();
        for (int h = 1; h >= 0; h--) {
            x.answer(h, 3, -1, 0);
            x.answer(h, 2, 1, 0);
            x.answer(h, 2, 0, 0);
            x.answer(h, 0, -1, 0);
        }
        x.freeze();
        changesAre("in order", x, 0, 1, place(0, 0, -1), place(0, 2, 0), place(0, 2, 1), place(0, 3, -1),
            place(1, 0, -1), place(1, 2, 0), place(1, 2, 1), place(1, 3, -1));
    }

    private void changesOfThoseInBothAlone() {
        edges.about("Terms", "of those that are there in both EDITIONS alone.");
        HouseholdVault x = new HouseholdVault();
        x.freeze();
        x.question(2, -1);
        x.household();
        x.freeze();
        x.question(2, -1);
        x.household();
        for (int h = 0; h < 2; h++) {
            for (int q = 0; q < 2; q++) x.answer(h, q, -1, 7);
        }
        x.freeze();
        changesAre("nothing was there", x, 0, 2);
        changesAre("nothing was there", x, 2, 0);
        changesAre("one of four was there", x, 1, 2, place(0, 0, -1));
        changesAre("one of four was there", x, 2, 1, place(0, 0, -1));
    }

    private void freezeTells() {
        edges.about("Promise 34", "An EDITION: its number. FULL.");
        HouseholdVault x = new HouseholdVault();
        for (int e = 0; e < 6; e++) edges.is("edition", x.freeze(), e);
        edges.is("a seventh", x.freeze(), FULL);
        edges.is("of a crowd", Edges.built(Scene::crowd).freeze(), Scene.EDITIONS);
        edges.refused("of a full vault", Scene::full, y -> y.freeze(), FULL);
        edges.refused("of a full vault that has changed", y -> {
            Scene.full(y);
            y.answer(1, Scene.WHOLE, -1, 13);
        }, y -> y.freeze(), FULL);
    }

    private void frozenTells() {
        edges.about("Promise 35", "The VALUE at a PLACE of an EDITION;");
        HouseholdVault x = Edges.built(Scene::crowd);
        edges.is("before", x.frozen(0, 0, Scene.WHOLE, -1), 3);
        edges.is("a ROSTER before", x.frozen(0, 1, Scene.ROSTER, -1), 1);
        edges.is("a ROSTER behind", x.frozen(1, 1, Scene.ROSTER, -1), 2);
        edges.is("a PERSON", x.frozen(0, 0, Scene.WHOLE_IN, 1), -2);
        edges.is("the last EDITION of a full vault", Edges.built(Scene::full).frozen(5, 1, Scene.WHOLE, -1), 12);
    }

    private void frozenOfNone() {
        edges.about("Promise 35", "0: it is MISSING, BAD (MADE ones, too).");
        HouseholdVault y = Edges.built(Scene::crowd);
        edges.is("MISSING", y.frozen(1, 0, Scene.WHOLE, -1), 0);
        for (int e : Edges.noneOf(Scene.EDITIONS)) {
            edges.refused("edition " + e, Scene::crowd, x -> x.frozen(e, 1, Scene.WHOLE, -1), 0);
        }
        for (int h : Edges.noneOf(Scene.HOUSEHOLDS)) {
            edges.refused("household " + h, Scene::crowd, x -> x.frozen(0, h, Scene.WHOLE, -1), 0);
        }
        for (int q : Edges.noneOf(Scene.QUESTIONS)) {
            edges.refused("question " + q, Scene::crowd, x -> x.frozen(0, 1, q, -1), 0);
        }
        for (int person : Edges.noneOf(2)) {
            edges.refused("person " + person, Scene::crowd, x -> x.frozen(0, 0, Scene.WHOLE_IN, person), 0);
        }
        edges.refused("a PERSON at the TOP", Scene::crowd, x -> x.frozen(0, 1, Scene.WHOLE, 0), 0);
        edges.is("a PERSON that came later", y.frozen(0, 1, Scene.WHOLE_IN, 1), 0);
        for (int q : new int[] {Scene.MAP, Scene.SUM, Scene.HOW_MANY}) {
            edges.refused("MADE " + q, Scene::crowd, x -> x.frozen(0, 0, q, -1), 0);
        }
        edges.refused("MADE IN a ROSTER", Scene::crowd, x -> x.frozen(0, 0, Scene.MAP_IN, 0), 0);
    }

    private void frozenReasonTells() {
        edges.about("Promise 36", "Its reason; 0: it is not MISSING.");
        HouseholdVault x = Edges.built(Scene::crowd);
        edges.is("not MISSING before", x.frozenReason(0, 0, Scene.WHOLE, -1), 0);
        edges.is("MISSING behind", x.frozenReason(1, 0, Scene.WHOLE, -1), 3);
        edges.is("MISSING at first", x.frozenReason(0, 1, Scene.DAY, -1), 1);
        edges.is("a ROSTER", x.frozenReason(0, 2, Scene.ROSTER, -1), 0);
        edges.is("a PERSON that came", x.frozenReason(1, 1, Scene.WHOLE_IN, 1), 1);
    }

    private void frozenReasonBad() {
        edges.about("Promise 36", "BAD: also a MADE one.");
        for (int e : Edges.noneOf(Scene.EDITIONS)) {
            edges.refused("edition " + e, Scene::crowd, x -> x.frozenReason(e, 0, Scene.WHOLE, -1), BAD);
        }
        for (int h : Edges.noneOf(Scene.HOUSEHOLDS)) {
            edges.refused("household " + h, Scene::crowd, x -> x.frozenReason(0, h, Scene.WHOLE, -1), BAD);
        }
        for (int q : Edges.noneOf(Scene.QUESTIONS)) {
            edges.refused("question " + q, Scene::crowd, x -> x.frozenReason(0, 0, q, -1), BAD);
        }
        for (int person : Edges.noneOf(2)) {
            edges.refused("person " + person, Scene::crowd, x -> x.frozenReason(0, 0, Scene.WHOLE_IN, person), BAD);
        }
        for (int person : new int[] {Integer.MIN_VALUE, -2, 0, Integer.MAX_VALUE}) {
            edges.refused("person " + person + " at the TOP", Scene::crowd,
                x -> x.frozenReason(0, 0, Scene.WHOLE, person), BAD);
        }
        edges.refused("a PERSON that came later", Scene::crowd, x -> x.frozenReason(0, 1, Scene.WHOLE_IN, 1), BAD);
        for (int q : new int[] {Scene.MAP, Scene.SUM, Scene.HOW_MANY}) {
            edges.refused("MADE " + q, Scene::crowd, x -> x.frozenReason(0, 0, q, -1), BAD);
        }
        edges.refused("MADE IN a ROSTER", Scene::crowd, x -> x.frozenReason(0, 0, Scene.MAP_IN, 0), BAD);
        edges.refused("a QUESTION that came later", Scene::full, x -> x.frozenReason(0, 0, 23, -1), BAD);
        edges.refused("a HOUSEHOLD that came later", Scene::full, x -> x.frozenReason(0, 39, Scene.WHOLE, -1), BAD);
        edges.is("they are in the last one", Edges.built(Scene::full).frozenReason(5, 39, 23, -1), 1);
    }

    private void changesTells() {
        edges.about("Promise 37", "How many CHANGES there are of EDITION e to f.");
        HouseholdVault x = Edges.built(Scene::crowd);
        // WHOLE of household 0; of household 1 the ROSTER and a PERSON, who has five QUESTIONS not MADE.
        edges.is("0 to 1", x.changes(0, 1), 7);
        edges.is("1 to 0", x.changes(1, 0), 7);
        edges.is("to itself", x.changes(1, 1), 0);
        HouseholdVault none = new HouseholdVault();
        none.freeze();
        none.freeze();
        edges.is("of nothing", none.changes(0, 1), 0);
        HouseholdVault all = new HouseholdVault();
        for (int q = 0; q < 4; q++) all.question(2, -1);
        for (int h = 0; h < 40; h++) all.household();
        all.freeze();
        for (int n = 0; n < 160; n++) all.answer(n / 4, n % 4, -1, 0);
        all.freeze();
        edges.is("all of 40 HOUSEHOLDS", all.changes(0, 1), 160);
        edges.is("the last", all.changeAt(0, 1, 159, 0), 39);
        edges.is("behind the last", all.changeAt(0, 1, 160, 0), NO_ENTRY);
    }

    private void changesBad() {
        edges.about("Promise 37", "BAD.");
        for (int e : Edges.noneOf(Scene.EDITIONS)) {
            edges.refused("e " + e, Scene::crowd, x -> x.changes(e, 0), BAD);
            edges.refused("f " + e, Scene::crowd, x -> x.changes(0, e), BAD);
            edges.refused("e and f " + e, Scene::crowd, x -> x.changes(e, e), BAD);
        }
        edges.refused("behind the last of six", Scene::full, x -> x.changes(5, 6), BAD);
        edges.is("the last of six", Edges.built(Scene::full).changes(5, 5), 0);
    }

    private void changeAtTells() {
        edges.about("Promise 38", "Of CHANGES number k: 0 the HOUSEHOLD, 1 the QUESTION, 2 the PERSON.");
        changesAre("of a crowd", Edges.built(Scene::crowd), 0, 1, place(0, Scene.WHOLE, -1), place(1, Scene.ROSTER, -1),
            place(1, Scene.CODE_IN, 1), place(1, Scene.CODES_IN, 1), place(1, Scene.WHOLE_IN, 1),
            place(1, Scene.CENTS_IN, 1), place(1, Scene.DAY_IN, 1));
    }

    private void changeAtBad() {
        edges.about("Promise 38", "-2: BAD.");
        for (int e : Edges.noneOf(Scene.EDITIONS)) {
            edges.refused("e " + e, Scene::crowd, x -> x.changeAt(e, 0, 0, 0), NO_ENTRY);
            edges.refused("f " + e, Scene::crowd, x -> x.changeAt(0, e, 0, 0), NO_ENTRY);
        }
        for (int k : Edges.noneOf(7)) edges.refused("k " + k, Scene::crowd, x -> x.changeAt(0, 1, k, 0), NO_ENTRY);
        for (int what : Edges.noneOf(3)) {
            edges.refused("what " + what, Scene::crowd, x -> x.changeAt(0, 1, 6, what), NO_ENTRY);
        }
        edges.refused("0 of none", Scene::crowd, x -> x.changeAt(1, 1, 0, 0), NO_ENTRY);
    }

    private void mergeAtTheTop() {
        edges.about("Promise 39",
            "ANSWERS that are MISSING now and were not in an EDITION (at the TOP but of ROSTERS;");
        HouseholdVault x = new HouseholdVault();
        for (int kind = 0; kind < 6; kind++) x.question(kind, -1);
        x.code(0, -128);
        x.household();
        x.household();
        x.answer(0, 0, -1, -128);
        x.answer(0, 1, -1, 0);
        x.answer(0, 2, -1, Integer.MIN_VALUE);
        x.answer(0, 3, -1, -CENTS_END);
        x.answer(0, 4, -1, 0);
        x.answer(0, 5, -1, 3);
        x.answer(1, 2, -1, 8);
        x.missing(1, 3, -1, 4);
        x.freeze();
        edges.is("none is MISSING that was not", x.merge(0), 0);
        edges.is("MISSING then and now", x.reason(1, 3, -1), 4);
        for (int q = 0; q < 5; q++) x.missing(0, q, -1, 5);
        x.answer(0, 5, -1, 0);
        x.answer(1, 2, -1, 9);
        x.answer(1, 3, -1, 7);
        edges.is("five come back", x.merge(0), 5);
        long[] wanted = {-128, 0, Integer.MIN_VALUE, -CENTS_END, 0, 0};
        for (int q = 0; q < 6; q++) {
            edges.is("question " + q, x.value(0, q, -1), wanted[q]);
            edges.is("question " + q, x.reason(0, q, -1), 0);
        }
        edges.is("what is not MISSING now stays", x.value(1, 2, -1), 9);
        edges.is("what was MISSING then stays", x.value(1, 3, -1), 7);
        edges.is("nothing is left", x.merge(0), 0);
        HouseholdVault made = new HouseholdVault();
        made.question(2, -1);
        made.map(0);
        made.row(1, 5, 5, 3);
        made.answer(made.household(), 0, -1, 5);
        edges.is("a MADE one tells", made.value(0, 1, -1), 3);
        made.freeze();
        made.answer(0, 0, -1, 6);
        edges.is("a MADE one is MISSING", made.reason(0, 1, -1), 4);
        edges.is("it is not brought back", made.merge(0), 0);
        edges.is("it is as it was", made.reason(0, 1, -1), 4);
    }

    private void mergeOfPersons() {
        edges.about("Promise 39", "of PERSONS that are there in both)");
        HouseholdVault x = new HouseholdVault();
        x.question(5, -1);
        x.question(2, 0);
        x.household();
        x.answer(0, 0, -1, 3);
        for (int person = 0; person < 3; person++) x.answer(0, 1, person, 10 + person);
        x.freeze();
        x.answer(0, 0, -1, 0);
        edges.is("none is there now", x.merge(0), 0);
        edges.is("none came back", x.value(0, 0, -1), 0);
        x.answer(0, 0, -1, 5);
        edges.is("three of five", x.merge(0), 3);
        for (int person = 0; person < 5; person++) {
            edges.is("person " + person, x.value(0, 1, person), person < 3 ? 10 + person : 0);
            edges.is("person " + person, x.reason(0, 1, person), person < 3 ? 0 : 1);
        }
        x.answer(0, 0, -1, 1);
        x.answer(0, 0, -1, 2);
        edges.is("the second of two", x.merge(0), 1);
        edges.is("as it was", x.value(0, 1, 1), 11);
    }

    private void mergeBecomesWhatItWas() {
        edges.about("Promise 39", "become what they were: how many.");
        HouseholdVault x = Edges.built(Scene::crowd);
        int lacks = x.ask(3, Scene.WHOLE, 0);
        edges.is("MISSING", x.holds(lacks, 0, -1), 1);
        edges.is("of the EDITION in which it is MISSING", x.merge(1), 0);
        edges.is("of the one in which it is not", x.merge(0), 1);
        edges.is("what it was", x.value(0, Scene.WHOLE, -1), 3);
        edges.is("what is MADE of it", x.value(0, Scene.MAP, -1), 50);
        edges.is("a CONDITION on it", x.holds(lacks, 0, -1), 0);
        edges.is("the EDITION is as it was", x.frozenReason(1, 0, Scene.WHOLE, -1), 3);
        HouseholdVault y = new HouseholdVault();
        y.question(2, -1);
        y.household();
        y.answer(0, 0, -1, 5);
        y.freeze();
        y.question(2, -1);
        y.household();
        y.missing(0, 0, -1, 2);
        edges.is("what came later stays as it is", y.merge(0), 1);
        edges.is("a later QUESTION", y.reason(0, 1, -1), 1);
        edges.is("a later HOUSEHOLD", y.reason(1, 0, -1), 1);
        HouseholdVault all = new HouseholdVault();
        all.question(2, -1);
        for (int h = 0; h < 40; h++) all.answer(all.household(), 0, -1, h);
        all.freeze();
        for (int h = 0; h < 40; h++) all.missing(h, 0, -1, 1);
        edges.is("all 40", all.merge(0), 40);
        edges.is("the last", all.value(39, 0, -1), 39);
        edges.is("the first was 0", all.reason(0, 0, -1), 0);
    }

    private void mergeBad() {
        edges.about("Promise 39", "BAD.");
        for (int e : Edges.noneOf(Scene.EDITIONS)) edges.refused("edition " + e, Scene::crowd, x -> x.merge(e), BAD);
        edges.refused("behind the last of six", Scene::full, x -> x.merge(6), BAD);
        edges.is("the last of six", Edges.built(Scene::full).merge(5), 0);
    }

    private void countTells() {
        edges.about("Promise 40", "0 QUESTIONS, 1 HOUSEHOLDS, 2 CONDITIONS, 3 EDITIONS, 4 rows of the TABLE "
            + "(0 without one), 5 its columns.");
        int[] ofNothing = {0, 0, 0, 0, 0, 0};
        int[] ofKinds = {11, 0, 0, 0, 0, 0};
        int[] ofCrowd = {Scene.QUESTIONS, Scene.HOUSEHOLDS, Scene.CONDITIONS, Scene.EDITIONS, 3, 3};
        int[] ofFull = {24, 40, 60, 6, 3, 3};
        for (int what = 0; what < 6; what++) {
            edges.is("of nothing, " + what, new HouseholdVault().count(what), ofNothing[what]);
            edges.is("of kinds, " + what, Edges.built(Scene::kinds).count(what), ofKinds[what]);
            edges.is("of a crowd, " + what, Edges.built(Scene::crowd).count(what), ofCrowd[what]);
            edges.is("of a full vault, " + what, Edges.built(Scene::full).count(what), ofFull[what]);
        }
        HouseholdVault x = Edges.built(Scene::full);
        x.table(Scene.CODE, -1);
        edges.is("nine rows", x.count(4), 9);
        edges.is("one column", x.count(5), 1);
        x.table(Scene.CODE, Scene.MAP);
        edges.is("nine columns", x.count(5), 9);
    }

    private void countBad() {
        edges.about("Promise 40", "BAD.");
        for (int what : Edges.noneOf(6)) {
            edges.refused("what " + what, Scene::crowd, x -> x.count(what), BAD);
            edges.refused("what " + what + " of nothing", Scene::empty, x -> x.count(what), BAD);
        }
    }
}
