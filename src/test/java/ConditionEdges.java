/** The edges of what the document says of CONDITIONS and FILTERS: terms of part 2, promises 15 to 21. */
final class ConditionEdges {
    private static final int BAD = -1, KIND = -2, FULL = -4, NO_ENTRY = -2;
    private static final long CENTS_END = 1000000000000000L, BEYOND_INT = 4294967296L;
    /** Of each KIND from 2 on its least and its greatest VALUE. */
    private static final long[][] ENDS = {{}, {}, {Integer.MIN_VALUE, Integer.MAX_VALUE}, {-CENTS_END, CENTS_END},
        {-30000, 30000}, {0, 5}};
    private final Edges edges;

    ConditionEdges(Edges edges) {
        this.edges = edges;
    }

    void look() {
        conditionsAre60AtMost();
        eachHasAReach();
        askIs();
        askOfCodes();
        askBelowAndAboveAtTheEnds();
        askOfARoster();
        askMissing();
        aMissingOneIsNothingElse();
        reachOfBothAndEither();
        not();
        someOfNPersons();
        sizesAre30AtMost();
        filtersReach();
        filtersNameElderOnes();
        againstIsWhatIsNotMissing();
        againstOrder();
        askTellsItsNumber();
        askBad();
        askKindAndFull();
        logicTellsItsNumber();
        logicBad();
        logicKindAndFull();
        someTellsItsNumber();
        someBad();
        someKindAndFull();
        holdsTells();
        holdsBad();
        filterTellsOne();
        filterBad();
        filterKind();
        againstCounts();
        againstAtEach();
        againstAtBad();
    }

    private void conditionsAre60AtMost() {
        edges.about("Terms", "CONDITIONS (60 at most) are made of elder ones;");
        HouseholdVault x = new HouseholdVault();
        x.question(5, -1);
        x.question(2, 0);
        x.household();
        x.answer(0, 0, -1, 1);
        edges.is("none yet", x.holds(0, 0, 0), BAD);
        edges.is("of none", x.logic(2, 0, 0), BAD);
        for (int c = 0; c < 60; c++) {
            edges.is("not of itself", x.logic(2, c, 0), BAD);
            edges.is("condition " + c, x.ask(0, 1, c), c);
        }
        edges.is("a 61st", x.ask(0, 1, 60), FULL);
        edges.is("a 61st by logic", x.logic(0, 58, 59), FULL);
        edges.is("a 61st by NOT", x.logic(2, 59, 0), FULL);
        edges.is("a 61st by SOME", x.some(59, 1), FULL);
        edges.is("how many", x.count(2), 60);
        x.answer(0, 1, 0, 59);
        edges.is("the last one", x.holds(59, 0, 0), 1);
        edges.is("the last but one", x.holds(58, 0, 0), 0);
        edges.is("behind the last one", x.holds(60, 0, 0), BAD);
        for (int way = 0; way < 4; way++) {
            HouseholdVault y = new HouseholdVault();
            y.question(5, -1);
            y.question(2, 0);
            for (int c = 0; c < 59; c++) y.ask(0, 1, c);
            int made = way == 3 ? y.some(58, 1) : y.logic(way, 58, 0);
            edges.is("the 60th in way " + way, made, 59);
        }
    }

    private void eachHasAReach() {
        edges.about("Terms", "each has a REACH: the TOP, or one ROSTER.");
        HouseholdVault x = Edges.built(Scene::crowd);
        edges.is("the TOP", x.holds(Scene.AT_TOP, 0, -1), 0);
        edges.is("the TOP has no PERSON", x.holds(Scene.AT_TOP, 0, 0), BAD);
        edges.is("the ROSTER", x.holds(Scene.IN_ROSTER, 0, 1), 0);
        edges.is("the ROSTER has two PERSONS", x.holds(Scene.IN_ROSTER, 0, 2), BAD);
        edges.is("the ROSTER is not the TOP", x.holds(Scene.IN_ROSTER, 0, -1), BAD);
        edges.is("the other ROSTER", x.holds(Scene.IN_ROSTER_2, 0, 0), 1);
        edges.is("the other ROSTER has one PERSON", x.holds(Scene.IN_ROSTER_2, 0, 1), BAD);
    }

    private static HouseholdVault oneOf(int kind) {
        HouseholdVault x = new HouseholdVault();
        x.question(kind, -1);
        x.household();
        return x;
    }

    private void askIs() {
        edges.about("Terms", "ASK of a QUESTION (its REACH is where that lies): 0 is v");
        for (int kind = 2; kind < 6; kind++) {
            HouseholdVault x = oneOf(kind);
            for (long end : ENDS[kind]) {
                x.answer(0, 0, -1, end);
                edges.is("it is " + end, x.holds(x.ask(0, 0, end), 0, -1), 1);
                edges.is("it is not one more", x.holds(x.ask(0, 0, end + 1), 0, -1), 0);
                edges.is("it is not one less", x.holds(x.ask(0, 0, end - 1), 0, -1), 0);
                edges.is("v does not wrap around", x.holds(x.ask(0, 0, end + BEYOND_INT), 0, -1), 0);
            }
        }
        HouseholdVault x = oneOf(0);
        x.code(0, 127);
        x.code(0, -128);
        x.answer(0, 0, -1, -128);
        edges.is("of CODE it is the CODE", x.holds(x.ask(0, 0, -128), 0, -1), 1);
        edges.is("and not its number", x.holds(x.ask(0, 0, 1), 0, -1), 0);
        edges.is("v does not wrap around", x.holds(x.ask(0, 0, BEYOND_INT - 128), 0, -1), 0);
        edges.is("any v may be asked", x.holds(x.ask(0, 0, Long.MIN_VALUE), 0, -1), 0);
    }

    private void askOfCodes() {
        edges.about("Terms", "(of CODES: CODE number v is in the set),");
        HouseholdVault x = oneOf(1);
        int[] has = new int[8];
        for (int v = 0; v < 8; v++) has[v] = x.ask(0, 0, v);
        edges.is("number -1", x.ask(0, 0, -1), BAD);
        edges.is("number 8", x.ask(0, 0, 8), BAD);
        for (int c = 0; c < 8; c++) x.code(0, 100 - c);
        for (int set : new int[] {0, 1, 128, 129, 254, 255}) {
            x.answer(0, 0, -1, set);
            for (int v = 0; v < 8; v++) edges.is(v + " in " + set, x.holds(has[v], 0, -1), set >> v & 1);
        }
        x.missing(0, 0, -1, 1);
        for (int v = 0; v < 8; v++) edges.is("in what is MISSING", x.holds(has[v], 0, -1), 0);
        HouseholdVault few = oneOf(1);
        few.code(0, 5);
        few.answer(0, 0, -1, 1);
        edges.is("a CODE that did not come yet", few.holds(few.ask(0, 0, 7), 0, -1), 0);
    }

    private void askBelowAndAboveAtTheEnds() {
        edges.about("Terms", "1 below v, 2 above v (of KIND 2 to 5 alone),");
        for (int kind = 2; kind < 6; kind++) {
            HouseholdVault x = oneOf(kind);
            for (long end : ENDS[kind]) {
                x.answer(0, 0, -1, end);
                String told = "kind " + kind + ", " + end;
                edges.is(told + " below itself", x.holds(x.ask(1, 0, end), 0, -1), 0);
                edges.is(told + " below one more", x.holds(x.ask(1, 0, end + 1), 0, -1), 1);
                edges.is(told + " above itself", x.holds(x.ask(2, 0, end), 0, -1), 0);
                edges.is(told + " above one less", x.holds(x.ask(2, 0, end - 1), 0, -1), 1);
                edges.is(told + " below the least long", x.holds(x.ask(1, 0, Long.MIN_VALUE), 0, -1), 0);
                edges.is(told + " below the greatest long", x.holds(x.ask(1, 0, Long.MAX_VALUE), 0, -1), 1);
                edges.is(told + " above the least long", x.holds(x.ask(2, 0, Long.MIN_VALUE), 0, -1), 1);
                edges.is(told + " above the greatest long", x.holds(x.ask(2, 0, Long.MAX_VALUE), 0, -1), 0);
            }
        }
        for (int code = 1; code < 3; code++) {
            for (int q : new int[] {Scene.CODE, Scene.CODES, Scene.CODE_IN, Scene.CODES_IN, Scene.MAP, Scene.MAP_IN}) {
                edges.is("of " + q, Edges.built(Scene::crowd).ask(code, q, 0), KIND);
            }
        }
    }

    private void askOfARoster() {
        edges.about("Terms", "(of KIND 2 to 5 alone),");
        HouseholdVault x = oneOf(5);
        int below = x.ask(1, 0, 5);
        int above = x.ask(2, 0, 4);
        int nobody = x.ask(0, 0, 0);
        int lacks = x.ask(3, 0, 0);
        for (int persons = 0; persons < 6; persons++) {
            x.answer(0, 0, -1, persons);
            edges.is(persons + " below 5", x.holds(below, 0, -1), persons < 5 ? 1 : 0);
            edges.is(persons + " above 4", x.holds(above, 0, -1), persons > 4 ? 1 : 0);
            edges.is(persons + " is 0", x.holds(nobody, 0, -1), persons == 0 ? 1 : 0);
            edges.is(persons + " is not MISSING", x.holds(lacks, 0, -1), 0);
        }
    }

    private void askMissing() {
        edges.about("Terms", "3 MISSING (v is not looked at);");
        for (int kind = 0; kind < 5; kind++) {
            HouseholdVault x = oneOf(kind);
            x.code(0, 1);
            for (long v : new long[] {Long.MIN_VALUE, -1, 0, 8, Long.MAX_VALUE}) {
                int made = x.ask(3, 0, v);
                x.missing(0, 0, -1, 5);
                edges.is("MISSING, v " + v, x.holds(made, 0, -1), 1);
                x.answer(0, 0, -1, 1);
                edges.is("not MISSING, v " + v, x.holds(made, 0, -1), 0);
            }
        }
    }

    private void aMissingOneIsNothingElse() {
        edges.about("Terms", "a MISSING one is nothing else.");
        for (int kind = 2; kind < 5; kind++) {
            HouseholdVault x = oneOf(kind);
            for (int reason = 1; reason < 6; reason++) {
                x.missing(0, 0, -1, reason);
                edges.is("it is not 0", x.holds(x.ask(0, 0, 0), 0, -1), 0);
                edges.is("it is not its reason", x.holds(x.ask(0, 0, reason), 0, -1), 0);
                edges.is("it is not below", x.holds(x.ask(1, 0, Long.MAX_VALUE), 0, -1), 0);
                edges.is("it is not above", x.holds(x.ask(2, 0, Long.MIN_VALUE), 0, -1), 0);
            }
        }
        HouseholdVault x = oneOf(0);
        x.code(0, 0);
        edges.is("a CODE that is MISSING is not 0", x.holds(x.ask(0, 0, 0), 0, -1), 0);
    }

    /** The ROSTERS of a CONDITION are those of which HOW MANY takes it; -1: of none. */
    private static int reachOf(HouseholdVault x, int c) {
        for (int roster : new int[] {Scene.ROSTER, Scene.ROSTER_2}) {
            if (x.howMany(roster, c) >= 0) return roster;
        }
        return -1;
    }

    private void reachOfBothAndEither() {
        edges.about("Terms", "BOTH, EITHER: REACH: that of both, or, if one is the TOP, of the other one.");
        for (int way = 0; way < 2; way++) {
            HouseholdVault x = Edges.built(Scene::crowd);
            edges.is("TOP, TOP", reachOf(x, x.logic(way, Scene.AT_TOP, Scene.SOME_AT_TOP)), -1);
            edges.is("TOP, ROSTER", reachOf(x, x.logic(way, Scene.AT_TOP, Scene.IN_ROSTER)), Scene.ROSTER);
            edges.is("ROSTER, TOP", reachOf(x, x.logic(way, Scene.IN_ROSTER, Scene.AT_TOP)), Scene.ROSTER);
            edges.is("ROSTER, ROSTER", reachOf(x, x.logic(way, Scene.IN_ROSTER, Scene.BOTH_IN)), Scene.ROSTER);
            edges.is("TOP, other", reachOf(x, x.logic(way, Scene.AT_TOP, Scene.IN_ROSTER_2)), Scene.ROSTER_2);
            edges.is("two ROSTERS", x.logic(way, Scene.IN_ROSTER, Scene.IN_ROSTER_2), KIND);
            edges.is("two ROSTERS, turned", x.logic(way, Scene.IN_ROSTER_2, Scene.BOTH_IN), KIND);
        }
        HouseholdVault x = Edges.built(Scene::crowd);
        int both = x.logic(0, Scene.SOME_AT_TOP, Scene.IN_ROSTER);
        int either = x.logic(1, Scene.IN_ROSTER, Scene.SOME_AT_TOP);
        edges.is("what is so at the TOP is so of each PERSON", x.holds(either, 0, 1), 1);
        edges.is("BOTH of the first", x.holds(both, 0, 0), 1);
        edges.is("BOTH of the last", x.holds(both, 0, 1), 0);
        edges.is("nobody is there", x.holds(either, 2, 0), BAD);
        int notAtTop = x.logic(1, Scene.IN_ROSTER, Scene.AT_TOP);
        edges.is("what is so of one PERSON is so of that one", x.holds(notAtTop, 0, 0), 1);
        edges.is("and of no other", x.holds(notAtTop, 0, 1), 0);
    }

    private void not() {
        edges.about("Terms", "NOT.");
        HouseholdVault x = Edges.built(Scene::crowd);
        int notTop = x.logic(2, Scene.AT_TOP, 0);
        int notIn = x.logic(2, Scene.IN_ROSTER, 0);
        edges.is("so", x.holds(notTop, 0, -1), 1);
        edges.is("not so", x.holds(notTop, 1, -1), 0);
        edges.is("of the first PERSON", x.holds(notIn, 0, 0), 0);
        edges.is("of the last PERSON", x.holds(notIn, 0, 1), 1);
        edges.is("of one that is not there", x.holds(notIn, 0, 2), BAD);
        edges.is("its REACH", reachOf(x, notIn), Scene.ROSTER);
        edges.is("of those that are there alone", x.holds(x.some(notIn, 2), 0, -1), 0);
        edges.is("NOT of NOT", x.holds(x.logic(2, notTop, 0), 1, -1), 1);
    }

    private void someOfNPersons() {
        edges.about("Terms", "SOME of one that REACHES a ROSTER, and n: of n PERSONS or more there it is so: the TOP.");
        HouseholdVault x = new HouseholdVault();
        x.question(5, -1);
        x.question(2, 0);
        x.ask(0, 1, 7);
        x.household();
        int[] some = new int[6];
        for (int n = 0; n < 6; n++) some[n] = x.some(0, n);
        for (int n = 0; n < 6; n++) edges.is(n + " of nobody", x.holds(some[n], 0, -1), n == 0 ? 1 : 0);
        x.answer(0, 0, -1, 5);
        for (int so = 0; so < 6; so++) {
            if (so > 0) x.answer(0, 1, 5 - so, 7);
            for (int n = 0; n < 6; n++) edges.is(n + " where " + so + " are", x.holds(some[n], 0, -1), so >= n ? 1 : 0);
        }
        edges.is("it REACHES the TOP", x.holds(some[1], 0, 0), BAD);
        edges.is("so that it is none for SOME", x.some(some[1], 1), KIND);
    }

    private void sizesAre30AtMost() {
        edges.about("Terms", "SIZE: ASK 1, others one more than their parts together; 30 at most.");
        HouseholdVault x = Edges.built(Scene::wide);
        edges.is("30 at the TOP and 30 IN the ROSTER are there", x.count(2), Scene.WIDE_CONDITIONS);
        int[] wide = {Scene.WIDE_AT_TOP, Scene.WIDE_IN};
        for (int c : wide) {
            edges.is("NOT of 30", x.logic(2, c, 0), FULL);
            edges.is("BOTH with 30", x.logic(0, c, Scene.AT_TOP), FULL);
            edges.is("EITHER with 30", x.logic(1, Scene.AT_TOP, c), FULL);
        }
        edges.is("SOME of 30", x.some(Scene.WIDE_IN, 1), FULL);
        HouseholdVault y = new HouseholdVault();
        y.question(5, -1);
        y.question(2, 0);
        int chain = y.ask(3, 1, 0);
        for (int size = 2; size < 30; size++) chain = y.logic(2, chain, 0);
        edges.is("29 by NOT alone", chain, 28);
        edges.is("30 by SOME", y.some(chain, 1), 29);
        edges.is("30 by NOT", y.logic(2, chain, 0), 30);
        edges.is("31 by BOTH", y.logic(0, chain, 0), FULL);
        edges.is("31 by SOME", y.some(30, 1), FULL);
        edges.is("31 by NOT of SOME", y.logic(2, 29, 0), FULL);
        edges.is("30 by BOTH", y.logic(0, chain - 1, 0), 31);
        edges.is("one part twice counts twice", y.logic(0, 14, 14), FULL);
        edges.is("29 by one part twice", y.logic(0, 13, 13), 32);
    }

    private void filtersReach() {
        edges.about("Terms",
            "A FILTER of a QUESTION is a CONDITION that REACHES the TOP, or the ROSTER in which it lies,");
        HouseholdVault x = Edges.built(Scene::crowd);
        int later = x.question(2, -1);
        int laterIn = x.question(2, Scene.ROSTER);
        int laterIn2 = x.question(2, Scene.ROSTER_2);
        int laterRoster = x.question(5, -1);
        int[] reach = {Scene.AT_TOP, Scene.IN_ROSTER, Scene.IN_ROSTER_2};
        int[][] wanted = {{1, KIND, KIND}, {1, 1, KIND}, {1, KIND, 1}, {1, KIND, KIND}};
        int[] asked = {later, laterIn, laterIn2, laterRoster};
        for (int n = 0; n < 4; n++) {
            for (int c = 0; c < 3; c++) {
                edges.is("of " + asked[n] + " by " + reach[c], x.filter(asked[n], reach[c]), wanted[n][c]);
            }
        }
        edges.is("SOME REACHES the TOP", x.filter(later, Scene.SOME_AT_TOP), 1);
        edges.is("a ROSTER lies at the TOP, not in itself", x.filter(Scene.ROSTER, Scene.IN_ROSTER), KIND);
    }

    private void filtersNameElderOnes() {
        edges.about("Terms", "and names elder QUESTIONS alone.");
        HouseholdVault x = new HouseholdVault();
        for (int q = 0; q < 4; q++) x.question(2, -1);
        for (int q = 0; q < 4; q++) x.ask(3, q, 0);
        for (int q = 0; q < 4; q++) {
            for (int named = 0; named < 4; named++) {
                edges.is(q + " by " + named, x.filter(q, named), named < q ? 1 : KIND);
            }
        }
        int inside = x.logic(2, x.logic(1, x.logic(0, 0, 3), 0), 0);
        edges.is("one that is not elder, deep inside", x.filter(2, inside), KIND);
        edges.is("itself, deep inside", x.filter(3, inside), KIND);
        edges.is("it is as it was", x.of(2, 4), 1);
        int later = x.question(2, -1);
        edges.is("all are elder", x.filter(later, inside), 1);
        int map = x.map(0);
        int ofMap = x.ask(3, map, 0);
        edges.is("a MADE one that is not elder", x.filter(later, ofMap), KIND);
        edges.is("a MADE one that is elder", x.filter(x.question(2, -1), ofMap), 1);
    }

    private void againstIsWhatIsNotMissing() {
        edges.about("Terms", "AGAINST are PLACES with an ANSWER that is not MISSING (of a ROSTER: not 0), "
            + "where the FILTER is not so:");
        HouseholdVault x = new HouseholdVault();
        for (int kind = 0; kind < 6; kind++) x.question(kind, -1);
        x.question(2, 5);
        x.household();
        int never = x.ask(1, 2, Long.MIN_VALUE);
        for (int q = 3; q < 7; q++) x.filter(q, never);
        edges.is("all are MISSING, nobody is there", x.against(), 0);
        x.answer(0, 3, -1, 0);
        edges.is("0 is a VALUE", x.against(), 1);
        x.answer(0, 4, -1, -30000);
        edges.is("one more", x.against(), 2);
        x.answer(0, 5, -1, 5);
        edges.is("a ROSTER that is not 0, whose PERSONS are MISSING", x.against(), 3);
        for (int person = 0; person < 5; person++) {
            x.answer(0, 6, person, 0);
            edges.is("one more PERSON", x.against(), 4 + person);
        }
        x.answer(0, 5, -1, 0);
        edges.is("a ROSTER of 0, whose PERSONS went", x.against(), 2);
        x.missing(0, 3, -1, 5);
        x.missing(0, 4, -1, 1);
        edges.is("MISSING again", x.against(), 0);
        x.answer(0, 4, -1, 0);
        x.filter(4, x.logic(2, never, 0));
        edges.is("the FILTER is so", x.against(), 0);
        x.filter(4, -1);
        edges.is("no FILTER", x.against(), 0);
    }

    private void againstOrder() {
        edges.about("Terms", "by HOUSEHOLDS, QUESTIONS, PERSONS. (MADE ones have none.)");
        HouseholdVault x = new HouseholdVault();
        x.question(2, -1);
        x.question(5, -1);
        x.question(2, 1);
        x.question(2, 1);
        x.question(2, -1);
        int never = x.ask(1, 0, Long.MIN_VALUE);
        for (int q = 1; q < 5; q++) x.filter(q, never);
        int map = x.map(4);
        x.row(map, 0, 0, 1);
        edges.is("a MADE one has none", x.filter(map, never), KIND);
        for (int h = 0; h < 2; h++) {
            x.household();
            x.answer(h, 4, -1, 0);
            x.answer(h, 1, -1, 2);
            for (int person = 1; person >= 0; person--) {
                x.answer(h, 3, person, 0);
                x.answer(h, 2, person, 0);
            }
        }
        int[][] one = {{1, -1}, {2, 0}, {2, 1}, {3, 0}, {3, 1}, {4, -1}};
        edges.is("how many", x.against(), 12);
        for (int k = 0; k < 12; k++) {
            edges.is(k + ", household", x.againstAt(k, 0), k / 6);
            edges.is(k + ", question", x.againstAt(k, 1), one[k % 6][0]);
            edges.is(k + ", person", x.againstAt(k, 2), one[k % 6][1]);
        }
    }

    private void askTellsItsNumber() {
        edges.about("Promise 15", "ASK by code 0 .. 3: its number.");
        HouseholdVault x = Edges.built(Scene::crowd);
        for (int code = 0; code < 4; code++) {
            edges.is("code " + code, x.ask(code, Scene.WHOLE, 0), Scene.CONDITIONS + code);
        }
        edges.is("the same again is another one", x.ask(3, Scene.WHOLE, 0), Scene.CONDITIONS + 4);
        edges.is("of a MADE one", x.ask(1, Scene.SUM, 0), Scene.CONDITIONS + 5);
    }

    private void askBad() {
        edges.about("Promise 15", "BAD: also CODE number v (of CODES) 0 .. 7;");
        for (int code : Edges.noneOf(4)) {
            edges.refused("code " + code, Scene::crowd, x -> x.ask(code, Scene.WHOLE, 0), BAD);
        }
        for (int q : Edges.noneOf(Scene.QUESTIONS)) {
            edges.refused("question " + q, Scene::crowd, x -> x.ask(3, q, 0), BAD);
        }
        for (long v : new long[] {Long.MIN_VALUE, -1, 8, BEYOND_INT, BEYOND_INT + 7, 64, Long.MAX_VALUE}) {
            edges.refused("number " + v, Scene::crowd, x -> x.ask(0, Scene.CODES, v), BAD);
            edges.refused("number " + v + " IN a ROSTER", Scene::crowd, x -> x.ask(0, Scene.CODES_IN, v), BAD);
            edges.is("any v of CODE", Edges.built(Scene::crowd).ask(0, Scene.CODE, v), Scene.CONDITIONS);
            edges.is("any v of what is MISSING", Edges.built(Scene::crowd).ask(3, Scene.CODES, v), Scene.CONDITIONS);
        }
        for (int v = 0; v < 8; v++) {
            edges.is("number " + v, Edges.built(Scene::crowd).ask(0, Scene.CODES, v), Scene.CONDITIONS);
        }
    }

    private void askKindAndFull() {
        edges.about("Promise 15", "KIND: code 1, 2 of KIND 0, 1; FULL.");
        for (int code = 1; code < 3; code++) {
            int one = code;
            for (int q : new int[] {Scene.CODE, Scene.CODES, Scene.CODE_IN, Scene.CODES_IN, Scene.MAP, Scene.MAP_IN}) {
                edges.refused("code " + code + " of " + q, Scene::crowd, x -> x.ask(one, q, 5), KIND);
            }
            for (int q : new int[] {Scene.WHOLE, Scene.CENTS, Scene.DAY, Scene.ROSTER}) {
                edges.is("code " + code + " of " + q, Edges.built(Scene::crowd).ask(code, q, 5), Scene.CONDITIONS);
            }
        }
        for (int code = 0; code < 4; code++) {
            int one = code;
            edges.refused("a 61st by code " + code, Scene::full, x -> x.ask(one, Scene.WHOLE, 0), FULL);
        }
    }

    private void logicTellsItsNumber() {
        edges.about("Promise 16", "BOTH (way 0), EITHER (1), NOT of a (2; b is not looked at): its number.");
        HouseholdVault x = Edges.built(Scene::crowd);
        int one = x.ask(0, Scene.DAY, 100);
        int both = x.logic(0, Scene.AT_TOP, one);
        int either = x.logic(1, Scene.AT_TOP, one);
        edges.is("numbers", both, one + 1);
        edges.is("numbers", either, one + 2);
        int next = one + 3;
        for (int b : new int[] {Integer.MIN_VALUE, -1, 0, next, Scene.IN_ROSTER_2, Integer.MAX_VALUE}) {
            edges.is("NOT with b " + b, x.logic(2, Scene.IN_ROSTER, b), next++);
            edges.is("it is NOT of a", x.holds(next - 1, 0, 0), 0);
        }
        // Household 1 is above 0, household 2 has the DAY, household 0 neither.
        int[] eitherOf = {0, 1, 1};
        for (int h = 0; h < 3; h++) {
            edges.is("BOTH of " + h, x.holds(both, h, -1), 0);
            edges.is("EITHER of " + h, x.holds(either, h, -1), eitherOf[h]);
        }
        x.answer(1, Scene.DAY, -1, 100);
        edges.is("BOTH of 1", x.holds(both, 1, -1), 1);
    }

    private void logicBad() {
        edges.about("Promise 16", "BAD;");
        for (int way : Edges.noneOf(3)) {
            edges.refused("way " + way, Scene::crowd, x -> x.logic(way, Scene.AT_TOP, Scene.AT_TOP), BAD);
        }
        for (int c : Edges.noneOf(Scene.CONDITIONS)) {
            for (int way = 0; way < 3; way++) {
                int one = way;
                edges.refused("way " + way + ", a " + c, Scene::crowd, x -> x.logic(one, c, Scene.AT_TOP), BAD);
                if (way == 2) continue;
                edges.refused("way " + way + ", b " + c, Scene::crowd, x -> x.logic(one, Scene.AT_TOP, c), BAD);
            }
        }
    }

    private void logicKindAndFull() {
        edges.about("Promise 16", "KIND: two ROSTERS; FULL: also the SIZE.");
        for (int way = 0; way < 2; way++) {
            int one = way;
            edges.refused("two ROSTERS", Scene::crowd, x -> x.logic(one, Scene.IN_ROSTER, Scene.IN_ROSTER_2), KIND);
            edges.refused("two ROSTERS", Scene::crowd, x -> x.logic(one, Scene.IN_ROSTER_2, Scene.BOTH_IN), KIND);
            edges.refused("a 61st", Scene::full, x -> x.logic(one, Scene.AT_TOP, Scene.AT_TOP), FULL);
            edges.refused("SIZE 32", Scene::wide, x -> x.logic(one, Scene.WIDE_AT_TOP, Scene.AT_TOP), FULL);
            edges.refused("SIZE 61", Scene::wide, x -> x.logic(one, Scene.WIDE_IN, Scene.WIDE_AT_TOP), FULL);
        }
        edges.refused("NOT, a 61st", Scene::full, x -> x.logic(2, Scene.AT_TOP, 0), FULL);
        edges.refused("NOT, SIZE 31", Scene::wide, x -> x.logic(2, Scene.WIDE_IN, 0), FULL);
    }

    private void someTellsItsNumber() {
        edges.about("Promise 17", "SOME (n 0 .. 5): its number.");
        HouseholdVault x = Edges.built(Scene::crowd);
        for (int n = 0; n < 6; n++) edges.is("n " + n, x.some(Scene.IN_ROSTER, n), Scene.CONDITIONS + n);
        edges.is("n 0 is so of all", x.holds(Scene.CONDITIONS, 2, -1), 1);
        edges.is("n 1", x.holds(Scene.CONDITIONS + 1, 0, -1), 1);
        edges.is("n 2", x.holds(Scene.CONDITIONS + 2, 0, -1), 0);
    }

    private void someBad() {
        edges.about("Promise 17", "BAD;");
        for (int n : Edges.noneOf(6)) edges.refused("n " + n, Scene::crowd, x -> x.some(Scene.IN_ROSTER, n), BAD);
        for (int c : Edges.noneOf(Scene.CONDITIONS)) {
            edges.refused("condition " + c, Scene::crowd, x -> x.some(c, 1), BAD);
        }
    }

    private void someKindAndFull() {
        edges.about("Promise 17", "KIND: it REACHES the TOP; FULL: also the SIZE.");
        edges.refused("ASK at the TOP", Scene::crowd, x -> x.some(Scene.AT_TOP, 1), KIND);
        edges.refused("SOME", Scene::crowd, x -> x.some(Scene.SOME_AT_TOP, 1), KIND);
        edges.refused("a 61st", Scene::full, x -> x.some(Scene.IN_ROSTER, 1), FULL);
        edges.refused("SIZE 31", Scene::wide, x -> x.some(Scene.WIDE_IN, 1), FULL);
    }

    private void holdsTells() {
        edges.about("Promise 18",
            "Whether it is so (1, 0) of a HOUSEHOLD, of a PERSON there (-1, if it REACHES the TOP).");
        HouseholdVault x = Edges.built(Scene::crowd);
        int[] atTop = {0, 1, 0};
        for (int h = 0; h < 3; h++) edges.is("household " + h, x.holds(Scene.AT_TOP, h, -1), atTop[h]);
        edges.is("the first PERSON", x.holds(Scene.IN_ROSTER, 0, 0), 1);
        edges.is("the last PERSON", x.holds(Scene.IN_ROSTER, 0, 1), 0);
        edges.is("the last of a full vault", Edges.built(Scene::full).holds(59, 39, -1), 1);
    }

    private void holdsBad() {
        edges.about("Promise 18", "BAD.");
        for (int c : Edges.noneOf(Scene.CONDITIONS)) {
            edges.refused("condition " + c, Scene::crowd, x -> x.holds(c, 0, -1), BAD);
        }
        for (int h : Edges.noneOf(Scene.HOUSEHOLDS)) {
            edges.refused("household " + h, Scene::crowd, x -> x.holds(Scene.AT_TOP, h, -1), BAD);
        }
        for (int person : Edges.noneOf(2)) {
            edges.refused("person " + person, Scene::crowd, x -> x.holds(Scene.IN_ROSTER, 0, person), BAD);
        }
        for (int person : new int[] {Integer.MIN_VALUE, -2, 0, 1, Integer.MAX_VALUE}) {
            edges.refused("person " + person + " at the TOP", Scene::crowd, x -> x.holds(Scene.AT_TOP, 1, person), BAD);
        }
    }

    private void filterTellsOne() {
        edges.about("Promise 19", "A FILTER (condition -1: none): 1.");
        HouseholdVault x = Edges.built(Scene::crowd);
        edges.is("a FILTER", x.filter(Scene.WHOLE_IN, Scene.AT_TOP), 1);
        edges.is("it is told", x.of(Scene.WHOLE_IN, 4), Scene.AT_TOP);
        edges.is("another one in its place", x.filter(Scene.DAY_IN, Scene.IN_ROSTER), 1);
        edges.is("the same again", x.filter(Scene.DAY_IN, Scene.IN_ROSTER), 1);
        edges.is("none", x.filter(Scene.DAY_IN, -1), 1);
        edges.is("none is told", x.of(Scene.DAY_IN, 4), -1);
        edges.is("none where none was", x.filter(Scene.CODE, -1), 1);
    }

    private void filterBad() {
        edges.about("Promise 19", "BAD;");
        for (int q : Edges.noneOf(Scene.QUESTIONS)) {
            edges.refused("question " + q, Scene::crowd, x -> x.filter(q, Scene.AT_TOP), BAD);
            edges.refused("question " + q + ", none", Scene::crowd, x -> x.filter(q, -1), BAD);
        }
        for (int c : Edges.noneButTop(Scene.CONDITIONS)) {
            edges.refused("condition " + c, Scene::crowd, x -> x.filter(Scene.DAY, c), BAD);
        }
        edges.refused("behind the last of a full vault", Scene::full, x -> x.filter(Scene.DAY, 60), BAD);
        edges.is("the last of a full vault", Edges.built(Scene::full).filter(Scene.DAY, 59), 1);
    }

    private void filterKind() {
        edges.about("Promise 19", "KIND: MADE, REACH, a QUESTION that is not elder.");
        for (int q : new int[] {Scene.MAP, Scene.SUM, Scene.HOW_MANY, Scene.MAP_IN}) {
            edges.refused("MADE " + q, Scene::crowd, x -> x.filter(q, Scene.AT_TOP), KIND);
            edges.refused("MADE " + q + ", none", Scene::crowd, x -> x.filter(q, -1), KIND);
        }
        edges.refused("REACH of a ROSTER at the TOP", Scene::crowd,
            x -> x.filter(Scene.ROSTER_2, Scene.IN_ROSTER), KIND);
        edges.refused("REACH of another", Scene::crowd, x -> x.filter(Scene.WHOLE_IN_2, Scene.IN_ROSTER), KIND);
        edges.refused("itself", Scene::crowd, x -> x.filter(Scene.WHOLE, Scene.AT_TOP), KIND);
        edges.refused("itself IN the ROSTER", Scene::crowd, x -> x.filter(Scene.WHOLE_IN, Scene.IN_ROSTER), KIND);
        edges.refused("a younger one", Scene::crowd, x -> x.filter(Scene.CODES, Scene.AT_TOP), KIND);
        edges.refused("a younger one in SOME", Scene::crowd, x -> x.filter(Scene.CODES_IN, Scene.SOME_AT_TOP), KIND);
    }

    private void againstCounts() {
        edges.about("Promise 20", "How many ANSWERS are AGAINST.");
        edges.is("of nothing", new HouseholdVault().against(), 0);
        HouseholdVault x = Edges.built(Scene::crowd);
        edges.is("one", x.against(), 1);
        x.answer(0, Scene.DAY, -1, 30000);
        edges.is("two", x.against(), 2);
        x.answer(1, Scene.DAY, -1, 30000);
        edges.is("one that is not", x.against(), 2);
        x.answer(2, Scene.WHOLE, -1, 1);
        edges.is("what it hangs on is answered", x.against(), 1);
        HouseholdVault all = new HouseholdVault();
        all.question(2, -1);
        all.question(2, -1);
        all.filter(1, all.ask(1, 0, Long.MIN_VALUE));
        for (int h = 0; h < 40; h++) all.answer(all.household(), 1, -1, h);
        edges.is("all 40", all.against(), 40);
        edges.is("the last", all.againstAt(39, 0), 39);
        edges.is("behind the last", all.againstAt(40, 0), NO_ENTRY);
    }

    private void againstAtEach() {
        edges.about("Promise 21", "AGAINST number k: 0 the HOUSEHOLD, 1 the QUESTION, 2 the PERSON.");
        HouseholdVault x = Edges.built(Scene::crowd);
        edges.is("household", x.againstAt(0, 0), 2);
        edges.is("question", x.againstAt(0, 1), Scene.DAY);
        edges.is("at the TOP", x.againstAt(0, 2), -1);
        x.filter(Scene.DAY_IN, Scene.IN_ROSTER);
        x.answer(0, Scene.DAY_IN, 1, 0);
        edges.is("household", x.againstAt(0, 0), 0);
        edges.is("question", x.againstAt(0, 1), Scene.DAY_IN);
        edges.is("person", x.againstAt(0, 2), 1);
        edges.is("the other one comes behind it", x.againstAt(1, 0), 2);
    }

    private void againstAtBad() {
        edges.about("Promise 21", "-2: BAD.");
        for (int k : Edges.noneOf(1)) edges.refused("k " + k, Scene::crowd, x -> x.againstAt(k, 0), NO_ENTRY);
        for (int what : Edges.noneOf(3)) {
            edges.refused("what " + what, Scene::crowd, x -> x.againstAt(0, what), NO_ENTRY);
        }
        edges.refused("0 of none", Scene::empty, x -> x.againstAt(0, 0), NO_ENTRY);
    }
}
