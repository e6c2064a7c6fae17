/** Which of two refusals comes first, call by call, and that nothing changes: the end of the document's terms. */
final class RefusalEdges {
    private static final int BAD = -1, KIND = -2, TWICE = -3, FULL = -4;
    private static final String FIRST = "Refused, and nothing changes, the first that fits:";
    private final Edges edges;

    RefusalEdges(Edges edges) {
        this.edges = edges;
    }

    void look() {
        badAheadOfKind();
        kindAheadOfTwice();
        twiceAheadOfFull();
        ofQuestion();
        ofCode();
        ofMapAndSum();
        ofRow();
        ofHowMany();
        ofAnswer();
        ofMissing();
        ofAsk();
        ofLogic();
        ofSome();
        ofFilter();
        ofTable();
        ofRank();
        refusalsOneAfterAnother();
        aValueMayBeAsARefusalIs();
    }

    private void badAheadOfKind() {
        edges.about("Terms", FIRST + " BAD (no such QUESTION, HOUSEHOLD, PERSON, CONDITION, EDITION, row, cell, "
            + "or a number out of its bounds),");
        edges.refused("QUESTION, KIND", Scene::crowd, x -> x.question(5, Scene.QUESTIONS), BAD);
        edges.refused("HOUSEHOLD, MADE", Scene::crowd, x -> x.answer(Scene.HOUSEHOLDS, Scene.MAP, -1, 0), BAD);
        edges.refused("PERSON, MADE", Scene::crowd, x -> x.answer(0, Scene.MAP_IN, 2, 0), BAD);
        edges.refused("CONDITION, KIND", Scene::crowd, x -> x.howMany(Scene.WHOLE, Scene.CONDITIONS), BAD);
        edges.refused("EDITION, MADE", Scene::crowd, x -> x.frozenReason(Scene.EDITIONS, 0, Scene.MAP, -1), BAD);
        edges.refused("row and cell", Scene::crowd, x -> x.cell(3, 0, 0), BAD);
        edges.refused("a number, KIND", Scene::crowd, x -> x.code(Scene.WHOLE, 128), BAD);
    }

    private void kindAheadOfTwice() {
        edges.about("Terms", "KIND (it is not of a KIND, REACH, PLACE that is wanted, is MADE, or is not elder),");
        edges.refused("KIND, FULL", Scene::full, x -> x.map(Scene.CODES), KIND);
        edges.refused("REACH, FULL", Scene::full, x -> x.howMany(Scene.ROSTER, Scene.AT_TOP), KIND);
        edges.refused("PLACE, FULL", Scene::full, x -> x.sum(Scene.WHOLE), KIND);
        edges.refused("MADE, TWICE", Scene::crowd, x -> x.code(Scene.MAP, 50), KIND);
        edges.refused("not elder", Scene::crowd, x -> x.filter(Scene.WHOLE, Scene.AT_TOP), KIND);
    }

    private void twiceAheadOfFull() {
        edges.about("Terms", "TWICE, FULL.");
        edges.refused("TWICE, FULL", Scene::full, x -> x.code(Scene.CODE, 5), TWICE);
        edges.refused("the last CODE, TWICE, FULL", Scene::full, x -> x.code(Scene.CODE, 15), TWICE);
        edges.refused("FULL alone", Scene::full, x -> x.code(Scene.CODE, 16), FULL);
    }

    private void ofQuestion() {
        edges.about("Terms", FIRST);
        edges.refused("question: BAD kind, KIND", Scene::crowd, x -> x.question(6, Scene.CODE), BAD);
        edges.refused("question: BAD kind, BAD roster", Scene::crowd, x -> x.question(-1, Scene.QUESTIONS), BAD);
        edges.refused("question: BAD roster, a ROSTER IN one", Scene::crowd, x -> x.question(5, -2), BAD);
        edges.refused("question: BAD kind, FULL", Scene::full, x -> x.question(6, -1), BAD);
        edges.refused("question: BAD roster, FULL", Scene::full, x -> x.question(2, 24), BAD);
        edges.refused("question: BAD, KIND, FULL", Scene::full, x -> x.question(-1, Scene.CODE), BAD);
        edges.refused("question: no ROSTER, FULL", Scene::full, x -> x.question(2, Scene.CODE), KIND);
        edges.refused("question: a ROSTER IN one, FULL", Scene::full, x -> x.question(5, Scene.ROSTER), KIND);
    }

    private void ofCode() {
        edges.about("Terms", FIRST);
        edges.refused("code: BAD, MADE", Scene::crowd, x -> x.code(Scene.MAP, -129), BAD);
        edges.refused("code: BAD, FULL", Scene::full, x -> x.code(Scene.CODE, 128), BAD);
        edges.refused("code: BAD QUESTION, BAD CODE", Scene::crowd, x -> x.code(-1, 128), BAD);
        edges.refused("code: MADE, FULL", Scene::full, x -> x.code(Scene.MAP, 99), KIND);
        edges.refused("code: MADE, TWICE, FULL", Scene::full, x -> x.code(Scene.MAP, 50), KIND);
    }

    private void ofMapAndSum() {
        edges.about("Terms", FIRST);
        edges.refused("map: BAD, FULL", Scene::full, x -> x.map(24), BAD);
        edges.refused("map: BAD below, FULL", Scene::full, x -> x.map(-1), BAD);
        edges.refused("map: a ROSTER, FULL", Scene::full, x -> x.map(Scene.ROSTER), KIND);
        edges.refused("sum: BAD, FULL", Scene::full, x -> x.sum(24), BAD);
        edges.refused("sum: BAD below, FULL", Scene::full, x -> x.sum(-1), BAD);
        edges.refused("sum: a DAY, FULL", Scene::full, x -> x.sum(Scene.DAY_IN), KIND);
        edges.refused("sum: MADE, FULL", Scene::full, x -> x.sum(Scene.MAP_IN), KIND);
    }

    private void ofRow() {
        edges.about("Terms", FIRST);
        edges.refused("row: low above high, no MAP", Scene::crowd, x -> x.row(Scene.CODE, 1, 0, 1), BAD);
        edges.refused("row: BAD CODE, no MAP", Scene::crowd, x -> x.row(Scene.SUM, 0, 0, 128), BAD);
        edges.refused("row: low above high, BAD CODE", Scene::crowd, x -> x.row(Scene.MAP, 1, 0, 128), BAD);
        edges.refused("row: low above high, FULL", Scene::full, x -> x.row(Scene.MAP, 1, 0, 1), BAD);
        edges.refused("row: BAD CODE, FULL", Scene::full, x -> x.row(Scene.MAP, 0, 1, -129), BAD);
        edges.refused("row: no MAP, though its CODES are FULL", Scene::full, x -> x.row(Scene.CODE, 0, 1, 1), KIND);
        edges.refused("row: FULL with a CODE that is there", Scene::full, x -> x.row(Scene.MAP, 0, 1, 50), FULL);
    }

    private void ofHowMany() {
        edges.about("Terms", FIRST);
        edges.refused("howMany: BAD QUESTION, REACH", Scene::crowd, x -> x.howMany(Scene.QUESTIONS, Scene.AT_TOP), BAD);
        edges.refused("howMany: BAD CONDITION, no ROSTER", Scene::crowd, x -> x.howMany(Scene.WHOLE, -1), BAD);
        edges.refused("howMany: BAD QUESTION, FULL", Scene::full, x -> x.howMany(24, Scene.IN_ROSTER), BAD);
        edges.refused("howMany: BAD CONDITION, FULL", Scene::full, x -> x.howMany(Scene.ROSTER, 60), BAD);
        edges.refused("howMany: no ROSTER, FULL", Scene::full, x -> x.howMany(Scene.WHOLE, Scene.IN_ROSTER), KIND);
        edges.refused("howMany: REACH, FULL", Scene::full, x -> x.howMany(Scene.ROSTER_2, Scene.IN_ROSTER), KIND);
    }

    private void ofAnswer() {
        edges.about("Promise 11", "BAD: the PLACE; then KIND: MADE; then BAD: the VALUE.");
        edges.refused("HOUSEHOLD, MADE", Scene::crowd, x -> x.answer(-1, Scene.SUM, -1, 0), BAD);
        edges.refused("PERSON at the TOP, MADE", Scene::crowd, x -> x.answer(0, Scene.SUM, 0, 0), BAD);
        edges.refused("PERSON, MADE, VALUE", Scene::crowd, x -> x.answer(0, Scene.MAP_IN, -1, 4), BAD);
        edges.refused("MADE, VALUE", Scene::crowd, x -> x.answer(0, Scene.SUM, -1, 2147483648L), KIND);
        edges.refused("MADE, VALUE of a MAP", Scene::crowd, x -> x.answer(0, Scene.MAP_IN, 0, 4), KIND);
        edges.refused("MADE, VALUE of HOW MANY", Scene::crowd,
            x -> x.answer(0, Scene.HOW_MANY, -1, Long.MIN_VALUE), KIND);
        edges.refused("PLACE, VALUE", Scene::crowd, x -> x.answer(3, Scene.DAY, -1, 30001), BAD);
    }

    private void ofMissing() {
        edges.about("Terms", FIRST);
        edges.refused("missing: reason, MADE", Scene::crowd, x -> x.missing(0, Scene.MAP, -1, 0), BAD);
        edges.refused("missing: reason, a ROSTER", Scene::crowd, x -> x.missing(0, Scene.ROSTER, -1, 6), BAD);
        edges.refused("missing: HOUSEHOLD, a ROSTER", Scene::crowd, x -> x.missing(3, Scene.ROSTER, -1, 1), BAD);
        edges.refused("missing: PERSON, a ROSTER", Scene::crowd, x -> x.missing(0, Scene.ROSTER, 0, 1), BAD);
        edges.refused("missing: PERSON, MADE", Scene::crowd, x -> x.missing(0, Scene.MAP_IN, 2, 1), BAD);
    }

    private void ofAsk() {
        edges.about("Terms", FIRST);
        edges.refused("ask: BAD QUESTION", Scene::crowd, x -> x.ask(1, Scene.QUESTIONS, 0), BAD);
        edges.refused("ask: BAD code, FULL", Scene::full, x -> x.ask(4, Scene.WHOLE, 0), BAD);
        edges.refused("ask: BAD QUESTION, FULL", Scene::full, x -> x.ask(0, 24, 0), BAD);
        edges.refused("ask: BAD number, FULL", Scene::full, x -> x.ask(0, Scene.CODES, 8), BAD);
        edges.refused("ask: KIND 0, FULL", Scene::full, x -> x.ask(1, Scene.CODE, 0), KIND);
        edges.refused("ask: KIND 1, FULL", Scene::full, x -> x.ask(2, Scene.CODES, 0), KIND);
    }

    private void ofLogic() {
        edges.about("Terms", FIRST);
        int in = Scene.IN_ROSTER;
        int in2 = Scene.IN_ROSTER_2;
        edges.refused("logic: BAD way, two ROSTERS", Scene::crowd, x -> x.logic(3, in, in2), BAD);
        edges.refused("logic: BAD a, FULL", Scene::full, x -> x.logic(0, 60, 0), BAD);
        edges.refused("logic: BAD b, FULL", Scene::full, x -> x.logic(1, 0, 60), BAD);
        edges.refused("logic: BAD a of NOT, FULL", Scene::full, x -> x.logic(2, 60, 0), BAD);
        edges.refused("logic: BAD way, FULL", Scene::full, x -> x.logic(-1, 0, 0), BAD);
        edges.refused("logic: two ROSTERS, FULL", Scene::full, x -> x.logic(0, in, in2), KIND);
        edges.refused("logic: two ROSTERS, SIZE", Scene::wide, x -> x.logic(1, Scene.WIDE_IN, in2), KIND);
        edges.refused("logic: two ROSTERS turned, SIZE", Scene::wide, x -> x.logic(0, in2, Scene.WIDE_IN), KIND);
        edges.refused("logic: BAD b, SIZE", Scene::wide, x -> x.logic(0, Scene.WIDE_IN, Scene.WIDE_CONDITIONS), BAD);
        edges.refused("logic: BAD way, SIZE", Scene::wide, x -> x.logic(3, Scene.WIDE_IN, 0), BAD);
        edges.refused("logic: SIZE, FULL", Scene::full, x -> x.logic(0, Scene.WIDE_IN, Scene.WIDE_IN), FULL);
    }

    private void ofSome() {
        edges.about("Terms", FIRST);
        edges.refused("some: BAD n, the TOP", Scene::crowd, x -> x.some(Scene.AT_TOP, 6), BAD);
        edges.refused("some: BAD n, FULL", Scene::full, x -> x.some(Scene.IN_ROSTER, -1), BAD);
        edges.refused("some: BAD CONDITION, FULL", Scene::full, x -> x.some(60, 1), BAD);
        edges.refused("some: BAD n, SIZE", Scene::wide, x -> x.some(Scene.WIDE_IN, 6), BAD);
        edges.refused("some: the TOP, FULL", Scene::full, x -> x.some(Scene.AT_TOP, 1), KIND);
        edges.refused("some: the TOP, SIZE", Scene::wide, x -> x.some(Scene.WIDE_AT_TOP, 1), KIND);
    }

    private void ofFilter() {
        edges.about("Terms", FIRST);
        edges.refused("filter: BAD CONDITION, MADE", Scene::crowd, x -> x.filter(Scene.MAP, Scene.CONDITIONS), BAD);
        edges.refused("filter: BAD below, MADE", Scene::crowd, x -> x.filter(Scene.SUM, -2), BAD);
        edges.refused("filter: BAD QUESTION, REACH", Scene::crowd,
            x -> x.filter(Scene.QUESTIONS, Scene.IN_ROSTER), BAD);
        edges.refused("filter: MADE, not elder", Scene::crowd, x -> x.filter(Scene.MAP, Scene.IN_ROSTER_2), KIND);
    }

    private void ofTable() {
        edges.about("Terms", FIRST);
        edges.refused("table: BAD r, KIND of q", Scene::crowd, x -> x.table(Scene.WHOLE, Scene.QUESTIONS), BAD);
        edges.refused("table: BAD r below, KIND of q", Scene::crowd, x -> x.table(Scene.CODE_IN, -2), BAD);
        edges.refused("table: BAD q, KIND of r", Scene::crowd, x -> x.table(-1, Scene.WHOLE), BAD);
        edges.refused("table: KIND of both", Scene::crowd, x -> x.table(Scene.WHOLE, Scene.CODES), KIND);
        edges.refused("shares: BAD, though all WEIGHTS are 0", x -> {
            Scene.crowd(x);
            for (int h = 0; h < Scene.HOUSEHOLDS; h++) x.weight(h, 0, 1);
            x.table(Scene.CODE, -1);
        }, x -> x.shares(-1), BAD);
    }

    private void ofRank() {
        edges.about("Terms", FIRST);
        edges.refused("rank: BAD k, KIND 1", Scene::crowd, x -> x.rank(Scene.CODES, Scene.HOUSEHOLDS), BAD);
        edges.refused("rank: BAD k below, KIND 1", Scene::crowd, x -> x.rank(Scene.CODES, -1), BAD);
        edges.refused("rank: BAD k, IN a ROSTER", Scene::crowd, x -> x.rank(Scene.WHOLE_IN, Scene.HOUSEHOLDS), BAD);
        edges.refused("rank: no HOUSEHOLDS, KIND 1", Scene::kinds, x -> x.rank(Scene.CODES, 0), BAD);
    }

    /** Many refusals in one vault still leave it as it was. */
    private void refusalsOneAfterAnother() {
        edges.about("Terms", "Refused, and nothing changes,");
        edges.refused("all of them", Scene::full, x -> {
            x.question(6, -1);
            x.question(2, -1);
            x.code(Scene.CODE, 5);
            x.code(Scene.CODE, 99);
            x.map(Scene.WHOLE);
            x.row(Scene.MAP, -9, 9, 1);
            x.howMany(Scene.ROSTER, Scene.IN_ROSTER);
            x.sum(Scene.WHOLE_IN);
            x.household();
            x.answer(0, Scene.ROSTER, -1, 6);
            x.missing(0, Scene.ROSTER, -1, 1);
            x.ask(3, Scene.WHOLE, 0);
            x.logic(0, 0, 0);
            x.some(Scene.IN_ROSTER, 1);
            x.filter(Scene.WHOLE, Scene.AT_TOP);
            x.weight(0, 1001, 1);
            x.table(Scene.WHOLE, -1);
            x.shares(-1);
            x.shown(0);
            x.mark(Scene.MAP, true);
            x.merge(6);
            return x.freeze();
        }, FULL);
    }

    private void aValueMayBeAsARefusalIs() {
        edges.about("Terms", "A VALUE that is told may be as a refusal is.");
        HouseholdVault x = new HouseholdVault();
        x.question(2, -1);
        x.question(0, -1);
        x.question(5, -1);
        x.question(3, 2);
        x.sum(3);
        x.household();
        x.answer(0, 2, -1, 1);
        x.ask(2, 2, 0);
        for (int v = -4; v < 0; v++) {
            edges.is("a CODE", x.code(1, v), v + 5);
            edges.is("CODE " + (v + 4), x.codeAt(1, v + 4), v);
            x.answer(0, 0, -1, v);
            x.answer(0, 1, -1, v);
            x.answer(0, 3, 0, v);
            edges.is("a WHOLE", x.value(0, 0, -1), v);
            edges.is("a CODE", x.value(0, 1, -1), v);
            edges.is("CENTS of a PERSON", x.value(0, 3, 0), v);
            edges.is("a SUM", x.value(0, 4, -1), v);
            edges.is("a PART", x.part(0, 0, 0, 1), v);
            int e = x.freeze();
            edges.is("what is frozen", x.frozen(e, 0, 0, -1), v);
            edges.is("it is not MISSING", x.frozenReason(e, 0, 0, -1), 0);
        }
    }
}
