/** The edges of what the document says of QUESTIONS and CODES: terms of part 1, promises 1 to 3, 8 and 9. */
final class QuestionEdges {
    private static final int BAD = -1, KIND = -2, TWICE = -3, FULL = -4, NO_CODE = 1000;
    private final Edges edges;

    QuestionEdges(Edges edges) {
        this.edges = edges;
    }

    void look() {
        questionsAre24AtMost();
        theLastQuestionMadeInEachWay();
        anObjectIsUsedFor512Calls();
        kinds();
        whereAQuestionLies();
        codesOfTheirOwn();
        nothingIsTold();
        questionTellsItsNumber();
        questionBad();
        questionKind();
        questionFull();
        codeTellsHowMany();
        codeBad();
        codeKind();
        codeTwice();
        codeFull();
        ofEachWhat();
        ofBad();
        codeAtEachPlace();
        codeAtBad();
    }

    private void questionsAre24AtMost() {
        edges.about("What it is", "QUESTIONS are numbered from 0 as they come, 24 at most.");
        HouseholdVault x = new HouseholdVault();
        edges.is("none yet", x.of(0, 0), BAD);
        for (int q = 0; q < 24; q++) {
            edges.is("question " + q, x.question(q % 5, -1), q);
            edges.is("it is there", x.of(q, 0), q % 5);
            edges.is("the next is not", x.of(q + 1, 0), BAD);
        }
        edges.is("a 25th", x.question(0, -1), FULL);
        edges.is("no number 24", x.of(24, 0), BAD);
        edges.is("how many", x.count(0), 24);
        x.household();
        edges.is("the last one is answered", x.answer(0, 23, -1, 1000000000000000L), 1);
        edges.is("the last one tells", x.value(0, 23, -1), 1000000000000000L);
    }

    /** A WHOLE IN a ROSTER and a CONDITION on it: all that the five ways of making a QUESTION need. */
    private static HouseholdVault with23() {
        HouseholdVault x = new HouseholdVault();
        x.question(5, -1);
        x.question(2, 0);
        x.ask(3, 1, 0);
        for (int q = 2; q < 23; q++) x.question(2, -1);
        return x;
    }

    private static int make(HouseholdVault x, int way) {
        switch (way) {
            case 0: return x.question(2, -1);
            case 1: return x.question(2, 0);
            case 2: return x.map(1);
            case 3: return x.howMany(0, 0);
            default: return x.sum(1);
        }
    }

    private void theLastQuestionMadeInEachWay() {
        edges.about("What it is", "as they come, 24 at most.");
        for (int way = 0; way < 5; way++) {
            HouseholdVault x = with23();
            edges.is("number 23 in way " + way, make(x, way), 23);
            for (int other = 0; other < 5; other++) edges.is("one more in way " + other, make(x, other), FULL);
            edges.is("how many", x.count(0), 24);
        }
    }

    private void anObjectIsUsedForSoMany(int calls) {
        HouseholdVault x = new HouseholdVault();
        x.question(2, -1);
        for (int h = 0; h < 40; h++) x.household();
        int done = 41;
        int last = 0;
        for (; done < calls - 1; done++) {
            last = done;
            edges.is("call " + done, x.answer(done % 40, 0, -1, done), 1);
        }
        edges.is("the last call of " + calls, x.value(last % 40, 0, -1), last);
    }

    private void anObjectIsUsedFor512Calls() {
        edges.about("What it is",
            "An object is used for at most 512 calls after it has been made; what later calls answer is free.");
        anObjectIsUsedForSoMany(511);
        anObjectIsUsedForSoMany(512);
    }

    private void kinds() {
        edges.about("Terms", "KINDS: 0 CODE, 1 CODES, 2 WHOLE, 3 CENTS, 4 DAY, 5 ROSTER.");
        HouseholdVault x = new HouseholdVault();
        edges.is("below the first", x.question(-1, -1), BAD);
        for (int kind = 0; kind < 6; kind++) edges.is("kind " + kind, x.question(kind, -1), kind);
        edges.is("above the last", x.question(6, -1), BAD);
        edges.is("CODE has CODES", x.code(0, 3), 1);
        edges.is("CODES has CODES", x.code(1, 3), 1);
        for (int kind = 2; kind < 6; kind++) edges.is("kind " + kind + " has none", x.code(kind, 3), KIND);
        x.household();
        edges.is("CODE takes a CODE", x.answer(0, 0, -1, 3), 1);
        edges.is("CODES takes bits", x.answer(0, 1, -1, 3), BAD);
        edges.is("CODES takes bits", x.answer(0, 1, -1, 1), 1);
        long intEnd = Integer.MAX_VALUE;
        edges.is("WHOLE ends where an int ends", x.answer(0, 2, -1, intEnd + 1), BAD);
        edges.is("CENTS does not", x.answer(0, 3, -1, intEnd + 1), 1);
        edges.is("DAY ends ahead of it", x.answer(0, 4, -1, 30001), BAD);
        edges.is("WHOLE does not", x.answer(0, 2, -1, 30001), 1);
        edges.is("ROSTER ends ahead of it", x.answer(0, 5, -1, 6), BAD);
        edges.is("DAY does not", x.answer(0, 4, -1, 6), 1);
    }

    private void whereAQuestionLies() {
        edges.about("Terms",
            "One lies at the TOP, or IN a ROSTER (a QUESTION of KIND 5 at the TOP; it is none itself).");
        HouseholdVault x = Edges.built(Scene::kinds);
        for (int q = 0; q < 6; q++) edges.is("at the TOP", x.of(q, 1), -1);
        for (int q = 6; q < 11; q++) edges.is("IN the ROSTER", x.of(q, 1), 5);
        edges.is("a ROSTER IN a ROSTER", x.question(5, 5), KIND);
        for (int q = 0; q < 11; q++) {
            if (q != 5) edges.is("IN what is none", x.question(2, q), KIND);
        }
        edges.is("a second ROSTER at the TOP", x.question(5, -1), 11);
        edges.is("IN it, though it is the last", x.question(4, 11), 12);
        edges.is("its ROSTER", x.of(12, 1), 11);
    }

    private void codesOfTheirOwn() {
        edges.about("Terms",
            "CODE and CODES have CODES of their own: -128 .. 127, 8 at most, in the order in which they came.");
        int[] codes = {127, -128, 0, -1, 126, -127, 1, 5};
        HouseholdVault x = Edges.built(Scene::kinds);
        for (int q : new int[] {0, 1, 6, 7}) {
            edges.is("none yet", x.of(q, 2), 0);
            edges.is("none yet", x.codeAt(q, 0), NO_CODE);
            for (int c : new int[] {-129, 128, 256 + 5, -256 + 5, Integer.MIN_VALUE, Integer.MAX_VALUE}) {
                edges.is("code " + c, x.code(q, c), BAD);
            }
            for (int n = 0; n < 8; n++) edges.is("code " + codes[n], x.code(q, codes[n]), n + 1);
            edges.is("a ninth", x.code(q, 2), FULL);
            for (int n = 0; n < 8; n++) edges.is("in their order", x.codeAt(q, n), codes[n]);
            edges.is("behind the last", x.codeAt(q, 8), NO_CODE);
            edges.is("how many", x.of(q, 2), 8);
        }
    }

    private void nothingIsTold() {
        edges.about("Promise 1", "Nothing is told.");
        HouseholdVault x = new HouseholdVault();
        for (int what = 0; what < 6; what++) edges.is("count(" + what + ")", x.count(what), 0);
        edges.is("of", x.of(0, 0), BAD);
        edges.is("codeAt", x.codeAt(0, 0), NO_CODE);
        edges.is("value", x.value(0, 0, -1), 0);
        edges.is("reason", x.reason(0, 0, -1), BAD);
        edges.is("holds", x.holds(0, 0, -1), BAD);
        edges.is("against", x.against(), 0);
        edges.is("againstAt", x.againstAt(0, 0), -2);
        edges.is("cell", x.cell(0, 0, 0), BAD);
        edges.is("share", x.share(0, 0), BAD);
        edges.is("follows", x.follows(), BAD);
        edges.is("rank", x.rank(0, 0), BAD);
        edges.is("part", x.part(0, 0, 0, 1), 0);
        edges.is("doubles", x.doubles(), 0);
        edges.is("doubleAt", x.doubleAt(0, 0), BAD);
        edges.is("frozen", x.frozen(0, 0, 0, -1), 0);
        edges.is("frozenReason", x.frozenReason(0, 0, 0, -1), BAD);
        edges.is("changes", x.changes(0, 0), BAD);
        edges.is("changeAt", x.changeAt(0, 0, 0, 0), -2);
        edges.refused("code", Scene::empty, y -> y.code(0, 0), BAD);
        edges.refused("map", Scene::empty, y -> y.map(0), BAD);
        edges.refused("row", Scene::empty, y -> y.row(0, 0, 0, 0), BAD);
        edges.refused("howMany", Scene::empty, y -> y.howMany(0, 0), BAD);
        edges.refused("sum", Scene::empty, y -> y.sum(0), BAD);
        edges.refused("answer", Scene::empty, y -> y.answer(0, 0, -1, 0), BAD);
        edges.refused("missing", Scene::empty, y -> y.missing(0, 0, -1, 1), BAD);
        edges.refused("ask", Scene::empty, y -> y.ask(3, 0, 0), BAD);
        edges.refused("logic", Scene::empty, y -> y.logic(2, 0, 0), BAD);
        edges.refused("some", Scene::empty, y -> y.some(0, 0), BAD);
        edges.refused("filter", Scene::empty, y -> y.filter(0, -1), BAD);
        edges.refused("weight", Scene::empty, y -> y.weight(0, 1, 1), BAD);
        edges.refused("table", Scene::empty, y -> y.table(0, -1), BAD);
        edges.refused("shares", Scene::empty, y -> y.shares(0), BAD);
        edges.refused("shown", Scene::empty, y -> y.shown(1), BAD);
        edges.refused("mark", Scene::empty, y -> y.mark(0, true), BAD);
        edges.refused("merge", Scene::empty, y -> y.merge(0), BAD);
        edges.is("the first question", new HouseholdVault().question(0, -1), 0);
        edges.is("the first household", new HouseholdVault().household(), 0);
        edges.is("the first edition", new HouseholdVault().freeze(), 0);
    }

    private void questionTellsItsNumber() {
        edges.about("Promise 2", "A QUESTION at the TOP (roster -1) or IN a ROSTER: its number.");
        HouseholdVault x = new HouseholdVault();
        edges.is("the first", x.question(5, -1), 0);
        edges.is("IN number 0", x.question(4, 0), 1);
        edges.is("at the TOP", x.question(4, -1), 2);
        edges.is("where", x.of(1, 1), 0);
        edges.is("where", x.of(2, 1), -1);
        edges.is("kind", x.of(1, 0), 4);
        edges.is("MADE", x.of(1, 3), 0);
    }

    private void questionBad() {
        edges.about("Promise 2", "BAD: KIND, roster;");
        for (int kind : Edges.noneOf(6)) {
            edges.refused("kind " + kind, Scene::crowd, x -> x.question(kind, -1), BAD);
            edges.refused("kind " + kind + " IN the ROSTER", Scene::crowd, x -> x.question(kind, Scene.ROSTER), BAD);
        }
        for (int roster : Edges.noneButTop(Scene.QUESTIONS)) {
            edges.refused("roster " + roster, Scene::crowd, x -> x.question(2, roster), BAD);
        }
    }

    private void questionKind() {
        edges.about("Promise 2", "KIND: roster is no ROSTER, a ROSTER IN one;");
        for (int q = 0; q < Scene.QUESTIONS; q++) {
            int roster = q;
            if (q == Scene.ROSTER || q == Scene.ROSTER_2) {
                edges.refused("a ROSTER IN " + q, Scene::crowd, x -> x.question(5, roster), KIND);
                edges.is("another IN " + q, Edges.built(Scene::crowd).question(0, q), Scene.QUESTIONS);
            } else {
                edges.refused("IN " + q, Scene::crowd, x -> x.question(0, roster), KIND);
                edges.refused("a ROSTER IN " + q, Scene::crowd, x -> x.question(5, roster), KIND);
            }
        }
    }

    private void questionFull() {
        edges.about("Promise 2", "FULL.");
        for (int kind = 0; kind < 6; kind++) {
            int one = kind;
            edges.refused("kind " + kind, Scene::full, x -> x.question(one, -1), FULL);
        }
        edges.refused("IN a ROSTER", Scene::full, x -> x.question(0, Scene.ROSTER), FULL);
    }

    private void codeTellsHowMany() {
        edges.about("Promise 3", "A CODE more: how many.");
        HouseholdVault x = Edges.built(Scene::crowd);
        edges.is("a third", x.code(Scene.CODE, 0), 3);
        edges.is("a fourth", x.code(Scene.CODES, 0), 4);
        edges.is("the ANSWERS stay", x.value(0, Scene.CODES, -1), 5);
        edges.is("it can be answered", x.answer(2, Scene.CODE, -1, 0), 1);
        edges.is("it can be answered", x.answer(2, Scene.CODES, -1, 8), 1);
    }

    private void codeBad() {
        edges.about("Promise 3", "BAD;");
        for (int q : Edges.noneOf(Scene.QUESTIONS)) {
            edges.refused("question " + q, Scene::crowd, x -> x.code(q, 0), BAD);
        }
        for (int c : new int[] {Integer.MIN_VALUE, -129, 128, 256, Integer.MAX_VALUE}) {
            edges.refused("code " + c, Scene::crowd, x -> x.code(Scene.CODE, c), BAD);
            edges.refused("code " + c + " of CODES", Scene::crowd, x -> x.code(Scene.CODES, c), BAD);
        }
        edges.is("the least", Edges.built(Scene::crowd).code(Scene.CODE, -128), 3);
        edges.is("the greatest", Edges.built(Scene::crowd).code(Scene.CODE, 127), 3);
    }

    private void codeKind() {
        edges.about("Promise 3", "KIND: the QUESTION has none, is MADE;");
        int[] none = {Scene.WHOLE, Scene.CENTS, Scene.DAY, Scene.ROSTER, Scene.WHOLE_IN, Scene.CENTS_IN, Scene.DAY_IN};
        for (int q : none) edges.refused("question " + q, Scene::crowd, x -> x.code(q, 0), KIND);
        for (int q : new int[] {Scene.MAP, Scene.SUM, Scene.HOW_MANY, Scene.MAP_IN}) {
            edges.refused("MADE " + q, Scene::crowd, x -> x.code(q, 0), KIND);
        }
    }

    private void codeTwice() {
        edges.about("Promise 3", "TWICE;");
        edges.refused("the first again", Scene::crowd, x -> x.code(Scene.CODE, 5), TWICE);
        edges.refused("the last again", Scene::crowd, x -> x.code(Scene.CODE, -6), TWICE);
        edges.refused("of CODES", Scene::crowd, x -> x.code(Scene.CODES, 9), TWICE);
        edges.refused("IN a ROSTER", Scene::crowd, x -> x.code(Scene.CODE_IN, 1), TWICE);
        edges.is("what another one has", Edges.built(Scene::crowd).code(Scene.CODES, 5), 4);
    }

    private void codeFull() {
        edges.about("Promise 3", "FULL.");
        edges.is("the eighth", Edges.built(Scene::full).of(Scene.CODE, 2), 8);
        edges.refused("a ninth", Scene::full, x -> x.code(Scene.CODE, 100), FULL);
        edges.is("another one is not", Edges.built(Scene::full).code(Scene.CODES, 100), 4);
    }

    private void ofEachWhat() {
        edges.about("Promise 8", "Of a QUESTION: 0 KIND, 1 its ROSTER (-1), 2 how many CODES, "
            + "3 MADE (0 no, 1 MAP, 2 HOW MANY, 3 SUM), 4 its FILTER (-1), 5 MARKED (1, 0).");
        HouseholdVault x = Edges.built(Scene::crowd);
        int[][] wanted = {
            {Scene.CODE, 0, -1, 2, 0, -1, 0}, {Scene.CODES, 1, -1, 3, 0, -1, 0}, {Scene.DAY, 4, -1, 0, 0, 0, 0},
            {Scene.ROSTER, 5, -1, 0, 0, -1, 1}, {Scene.CODE_IN, 0, 5, 1, 0, -1, 0},
            {Scene.CENTS_IN, 3, 5, 0, 0, -1, 0}, {Scene.MAP, 0, -1, 2, 1, -1, 0}, {Scene.SUM, 2, -1, 0, 3, -1, 0},
            {Scene.WHOLE_IN_2, 2, 13, 0, 0, -1, 0}, {Scene.HOW_MANY, 2, -1, 0, 2, -1, 0},
            {Scene.MAP_IN, 0, 5, 1, 1, -1, 0}};
        for (int[] row : wanted) {
            for (int what = 0; what < 6; what++) {
                edges.is("of(" + row[0] + ", " + what + ")", x.of(row[0], what), row[what + 1]);
            }
        }
    }

    private void ofBad() {
        edges.about("Promise 8", "BAD.");
        for (int q : Edges.noneOf(Scene.QUESTIONS)) {
            edges.refused("question " + q, Scene::crowd, x -> x.of(q, 0), BAD);
        }
        for (int what : Edges.noneOf(6)) {
            edges.refused("what " + what, Scene::crowd, x -> x.of(Scene.ROSTER, what), BAD);
        }
        edges.is("the last of a full vault", Edges.built(Scene::full).of(23, 3), 0);
        edges.refused("behind the last of a full vault", Scene::full, x -> x.of(24, 0), BAD);
    }

    private void codeAtEachPlace() {
        edges.about("Promise 9", "CODE i of a QUESTION.");
        HouseholdVault x = Edges.built(Scene::full);
        int[] codes = {5, -6, 10, 11, 12, 13, 14, 15};
        for (int i = 0; i < 8; i++) edges.is("code " + i, x.codeAt(Scene.CODE, i), codes[i]);
        int[] mapped = {50, -60, 2, 3, 4, 5, 6, 7};
        for (int i = 0; i < 8; i++) edges.is("code " + i + " of a MAP", x.codeAt(Scene.MAP, i), mapped[i]);
    }

    private void codeAtBad() {
        edges.about("Promise 9", "1000: BAD.");
        for (int q : Edges.noneOf(Scene.QUESTIONS)) {
            edges.refused("question " + q, Scene::crowd, x -> x.codeAt(q, 0), NO_CODE);
        }
        for (int i : Edges.noneOf(2)) {
            edges.refused("code " + i, Scene::crowd, x -> x.codeAt(Scene.CODE, i), NO_CODE);
        }
        for (int i : Edges.noneOf(8)) {
            edges.refused("code " + i + " of eight", Scene::full, x -> x.codeAt(Scene.CODE, i), NO_CODE);
        }
        HouseholdVault x = Edges.built(Scene::crowd);
        for (int q : new int[] {Scene.WHOLE, Scene.CENTS, Scene.DAY, Scene.ROSTER, Scene.SUM, Scene.HOW_MANY}) {
            edges.is("question " + q + " has none", x.codeAt(q, 0), NO_CODE);
        }
        edges.is("no CODES yet", Edges.built(Scene::kinds).codeAt(Scene.CODE, 0), NO_CODE);
    }
}
