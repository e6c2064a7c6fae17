/** The edges of what the document says of RANKS, PARTS and DOUBLES: terms of part 4, promises 29 to 33. */
final class RankEdges {
    private static final int BAD = -1, KIND = -2;
    private static final long CENTS_END = 1000000000000000L;
    private final Edges edges;

    RankEdges(Edges edges) {
        this.edges = edges;
    }

    void look() {
        rankOfWhichQuestions();
        rankByValuesRising();
        rankOfCodes();
        rankOfMissingOnes();
        rankOfLikeOnes();
        partBounds();
        partOfWhichQuestions();
        partOfThoseForWhichItIsSo();
        partNumberCut();
        marked();
        doublesOfAnswers();
        doublesOfPersons();
        doublesInOrder();
        doublesOfNoneMarked();
        rankTells();
        rankBad();
        rankKind();
        partTells();
        partBad();
        partKind();
        markTells();
        markBad();
        markKind();
        doublesTells();
        doubleAtTells();
        doubleAtBad();
    }

    private static HouseholdVault homesWith(int kind, long... values) {
        HouseholdVault x = new HouseholdVault();
        x.question(kind, -1);
        for (long v : values) x.answer(x.household(), 0, -1, v);
        return x;
    }

    private void ranks(String told, HouseholdVault x, int q, int... wanted) {
        for (int k = 0; k < wanted.length; k++) edges.is(told + ", number " + k, x.rank(q, k), wanted[k]);
        edges.is(told + ", behind the last", x.rank(q, wanted.length), BAD);
    }

    private void rankOfWhichQuestions() {
        edges.about("Terms", "THE RANK of HOUSEHOLDS by a QUESTION at the TOP (but of KIND 1):");
        HouseholdVault x = Edges.built(Scene::crowd);
        for (int q = 0; q < Scene.QUESTIONS; q++) {
            boolean refused = x.of(q, 1) != -1 || x.of(q, 0) == 1;
            edges.is("question " + q, Math.min(x.rank(q, 0), 0), refused ? KIND : 0);
        }
    }

    private void rankByValuesRising() {
        edges.about("Terms", "by VALUES rising");
        ranks("WHOLE", homesWith(2, Integer.MAX_VALUE, 0, Integer.MIN_VALUE, -1, 1), 0, 2, 3, 1, 4, 0);
        ranks("CENTS", homesWith(3, CENTS_END, 4294967296L, -CENTS_END, 1, -4294967296L), 0, 2, 4, 3, 1, 0);
        ranks("DAY", homesWith(4, 30000, -30000, 29999, -29999), 0, 1, 3, 2, 0);
        ranks("ROSTER", homesWith(5, 5, 0, 4, 1), 0, 1, 3, 2, 0);
        ranks("one HOUSEHOLD", homesWith(2, 7), 0, 0);
        HouseholdVault all = new HouseholdVault();
        all.question(2, -1);
        for (int h = 0; h < 40; h++) all.answer(all.household(), 0, -1, -h);
        for (int k = 0; k < 40; k++) edges.is("number " + k + " of 40", all.rank(0, k), 39 - k);
        edges.is("number 40 of 40", all.rank(0, 40), BAD);
    }

    private void rankOfCodes() {
        edges.about("Terms", "(of CODE by its CODES' numbers),");
        HouseholdVault x = new HouseholdVault();
        x.question(0, -1);
        int[] codes = {127, -128, 0, 5, -5, 126, 1, -1};
        for (int c : codes) x.code(0, c);
        for (int n = 7; n >= 0; n--) x.answer(x.household(), 0, -1, codes[n]);
        ranks("eight CODES", x, 0, 7, 6, 5, 4, 3, 2, 1, 0);
        int map = x.map(0);
        x.row(map, 1, 127, 9);
        x.row(map, -128, 0, 8);
        ranks("a MAP by its own", x, map, 1, 2, 4, 7, 0, 3, 5, 6);
    }

    private void rankOfMissingOnes() {
        edges.about("Terms", "MISSING ones last,");
        HouseholdVault x = homesWith(2, 1, 2, Integer.MAX_VALUE, 0, Integer.MIN_VALUE);
        x.missing(1, 0, -1, 5);
        x.missing(0, 0, -1, 2);
        ranks("two are MISSING", x, 0, 4, 3, 2, 0, 1);
        for (int h = 0; h < 5; h++) x.missing(h, 0, -1, 5 - h);
        ranks("all are MISSING", x, 0, 0, 1, 2, 3, 4);
        x.answer(4, 0, -1, Integer.MAX_VALUE);
        ranks("the last is not", x, 0, 4, 0, 1, 2, 3);
    }

    private void rankOfLikeOnes() {
        edges.about("Terms", "of like ones the elder first.");
        ranks("like ones", homesWith(2, 3, 1, 3, 1, 3), 0, 1, 3, 0, 2, 4);
        ranks("all alike", homesWith(4, 30000, 30000, 30000), 0, 0, 1, 2);
        ranks("nobody in any", homesWith(5, 0, 0, 0), 0, 0, 1, 2);
    }

    /** HOUSEHOLDS with these VALUES, and CONDITION 0, which is so of all. */
    private static HouseholdVault partsOf(int kind, long... values) {
        HouseholdVault x = homesWith(kind, values);
        x.question(2, -1);
        x.ask(3, 1, 0);
        return x;
    }

    private void partBounds() {
        edges.about("Terms", "THE PART up / low (0 .. 1, low 1 .. 1000)");
        HouseholdVault x = partsOf(2, 10, 20, 30);
        int[][] good = {{0, 1, 10}, {1, 1, 30}, {0, 1000, 10}, {1000, 1000, 30}, {500, 1000, 20}, {999, 1000, 20}};
        for (int[] g : good) edges.is(g[0] + " / " + g[1], x.part(0, 0, g[0], g[1]), g[2]);
        int[][] bad = {{-1, 1}, {2, 1}, {1001, 1000}, {0, 0}, {1, 0}, {0, -1}, {-1, -1}, {0, 1001}, {1, 1001},
            {1001, 1001}, {Integer.MIN_VALUE, 1}, {Integer.MAX_VALUE, 1000},
            {0, Integer.MIN_VALUE}, {0, Integer.MAX_VALUE}};
        for (int[] b : bad) edges.is(b[0] + " / " + b[1], x.part(0, 0, b[0], b[1]), 0);
    }

    private void partOfWhichQuestions() {
        edges.about("Terms", "of a QUESTION of KIND 2 to 4 at the TOP by a CONDITION that REACHES the TOP:");
        edges.is("WHOLE", partsOf(2, Integer.MIN_VALUE, Integer.MAX_VALUE).part(0, 0, 0, 1), Integer.MIN_VALUE);
        edges.is("WHOLE", partsOf(2, Integer.MIN_VALUE, Integer.MAX_VALUE).part(0, 0, 1, 1), Integer.MAX_VALUE);
        edges.is("CENTS", partsOf(3, -CENTS_END, CENTS_END).part(0, 0, 0, 1), -CENTS_END);
        edges.is("CENTS", partsOf(3, -CENTS_END, CENTS_END).part(0, 0, 1, 1), CENTS_END);
        edges.is("DAY", partsOf(4, -30000, 30000).part(0, 0, 0, 1), -30000);
        edges.is("DAY", partsOf(4, -30000, 30000).part(0, 0, 1, 1), 30000);
        edges.is("ROSTER is none", partsOf(5, 4, 4).part(0, 0, 0, 1), 0);
        HouseholdVault code = new HouseholdVault();
        code.question(0, -1);
        code.code(0, 5);
        code.question(1, -1);
        code.code(1, 5);
        code.answer(code.household(), 0, -1, 5);
        code.answer(0, 1, -1, 1);
        code.ask(3, 0, 0);
        code.logic(2, 0, 0);
        edges.is("CODE is none", code.part(0, 1, 0, 1), 0);
        edges.is("CODES is none", code.part(1, 1, 0, 1), 0);
        HouseholdVault x = Edges.built(Scene::crowd);
        int all = x.ask(2, Scene.ROSTER, -1);
        edges.is("IN a ROSTER is none", x.part(Scene.WHOLE_IN, all, 0, 1), 0);
        edges.is("a SUM is one", x.part(Scene.SUM, all, 0, 1), 2);
        edges.is("a MAP is a CODE", x.part(Scene.MAP, all, 0, 1), 0);
        edges.is("a CONDITION of a ROSTER is none", x.part(Scene.CENTS, Scene.IN_ROSTER, 0, 1), 0);
        edges.is("the CENTS are there", x.part(Scene.CENTS, all, 0, 1), 100000);
    }

    private void partOfThoseForWhichItIsSo() {
        edges.about("Terms", "of the m VALUES of HOUSEHOLDS for which it is so, rising,");
        HouseholdVault x = homesWith(2, 40, 10, 30, 20);
        x.question(2, -1);
        for (int h = 0; h < 4; h++) x.answer(h, 1, -1, h);
        int behind = x.ask(2, 1, 0);
        long[] rising = {10, 20, 30};
        for (int n = 0; n < 3; n++) edges.is("number " + n + " of three", x.part(0, behind, n, 2), rising[n]);
        x.missing(1, 0, -1, 3);
        edges.is("one of them is MISSING", x.part(0, behind, 0, 2), 20);
        edges.is("two are left", x.part(0, behind, 1, 2), 20);
        edges.is("two are left", x.part(0, behind, 2, 2), 30);
    }

    private void partNumberCut() {
        edges.about("Terms", "number (m - 1) up / low, cut, from 0.");
        HouseholdVault one = partsOf(2, 7);
        for (int up = 0; up < 4; up++) edges.is("of one", one.part(0, 0, up, 3), 7);
        HouseholdVault two = partsOf(2, 8, 7);
        edges.is("999 / 1000 of one is cut to 0", two.part(0, 0, 999, 1000), 7);
        edges.is("1000 / 1000 of one is 1", two.part(0, 0, 1000, 1000), 8);
        HouseholdVault three = partsOf(2, 9, 8, 7);
        edges.is("499 / 1000 of two", three.part(0, 0, 499, 1000), 7);
        edges.is("500 / 1000 of two", three.part(0, 0, 500, 1000), 8);
        edges.is("2 / 3 of two", three.part(0, 0, 2, 3), 8);
        long[] values = new long[40];
        for (int h = 0; h < 40; h++) values[h] = 100 + h;
        HouseholdVault all = partsOf(2, values);
        edges.is("999 / 1000 of 39", all.part(0, 0, 999, 1000), 138);
        edges.is("1000 / 1000 of 39", all.part(0, 0, 1000, 1000), 139);
        edges.is("25 / 1000 of 39", all.part(0, 0, 25, 1000), 100);
        edges.is("26 / 1000 of 39", all.part(0, 0, 26, 1000), 101);
        edges.is("1 / 2 of 39", all.part(0, 0, 1, 2), 119);
    }

    private void marked() {
        edges.about("Terms", "MARKED are some QUESTIONS at the TOP, not MADE.");
        HouseholdVault x = Edges.built(Scene::crowd);
        for (int q = 0; q < Scene.QUESTIONS; q++) {
            boolean refused = x.of(q, 1) != -1 || x.of(q, 3) != 0;
            edges.is("question " + q, Math.min(x.mark(q, true), 0), refused ? KIND : 0);
            edges.is("question " + q, x.of(q, 5), refused ? 0 : 1);
        }
    }

    private void doublesOfAnswers() {
        edges.about("Terms", "DOUBLES are pairs of HOUSEHOLDS, the lesser ahead, with like ANSWERS "
            + "(MISSING ones of like reason) to all that are MARKED,");
        HouseholdVault x = new HouseholdVault();
        x.question(3, -1);
        x.question(4, -1);
        x.household();
        edges.is("none is a double of itself", x.doubles(), 0);
        x.household();
        x.mark(0, true);
        edges.is("both MISSING by 1", x.doubles(), 1);
        edges.is("the lesser ahead", x.doubleAt(0, 0), 0);
        edges.is("the other behind", x.doubleAt(0, 1), 1);
        for (int reason = 2; reason < 6; reason++) {
            x.missing(0, 0, -1, reason);
            edges.is("unlike reasons", x.doubles(), 0);
            x.missing(1, 0, -1, reason);
            edges.is("like reasons", x.doubles(), 1);
        }
        x.answer(0, 0, -1, 0);
        edges.is("0 is not MISSING", x.doubles(), 0);
        x.answer(0, 0, -1, CENTS_END);
        x.answer(1, 0, -1, CENTS_END - 1);
        edges.is("unlike by one", x.doubles(), 0);
        x.answer(1, 0, -1, CENTS_END - 4294967296L);
        edges.is("unlike by what an int leaves out", x.doubles(), 0);
        x.answer(1, 0, -1, CENTS_END);
        edges.is("like", x.doubles(), 1);
        x.answer(0, 1, -1, 30000);
        edges.is("unlike where it is not MARKED", x.doubles(), 1);
        x.mark(1, true);
        edges.is("unlike in one that is MARKED", x.doubles(), 0);
        x.answer(1, 1, -1, 30000);
        edges.is("like in all", x.doubles(), 1);
    }

    private void doublesOfPersons() {
        edges.about("Terms",
            "and like ones of all PERSONS in ROSTERS that are (to all QUESTIONS in them that are not MADE):");
        HouseholdVault x = new HouseholdVault();
        x.question(5, -1);
        x.question(2, 0);
        int map = x.map(1);
        x.question(4, 0);
        x.question(5, -1);
        x.question(2, 4);
        x.mark(0, true);
        x.household();
        x.household();
        edges.is("nobody", x.doubles(), 1);
        x.answer(0, 0, -1, 5);
        edges.is("not as many", x.doubles(), 0);
        x.answer(1, 0, -1, 5);
        edges.is("as many", x.doubles(), 1);
        x.answer(0, 3, 4, 0);
        edges.is("the last PERSON of the last QUESTION", x.doubles(), 0);
        x.answer(1, 3, 4, 0);
        edges.is("like ones", x.doubles(), 1);
        x.missing(1, 1, 0, 2);
        edges.is("the first PERSON of the first QUESTION", x.doubles(), 0);
        x.missing(0, 1, 0, 2);
        edges.is("like reasons", x.doubles(), 1);
        x.answer(0, 1, 1, 3);
        x.answer(1, 1, 2, 3);
        edges.is("the same of other PERSONS", x.doubles(), 0);
        x.answer(0, 0, -1, 1);
        x.answer(1, 0, -1, 1);
        edges.is("they went", x.doubles(), 1);
        x.row(map, 0, 9, 1);
        x.value(0, map, 0);
        edges.is("a MADE one is not looked at", x.doubles(), 1);
        x.answer(0, 4, -1, 1);
        x.answer(0, 5, 0, 1);
        edges.is("nor is a ROSTER that is not MARKED", x.doubles(), 1);
        x.mark(4, true);
        edges.is("until it is", x.doubles(), 0);
        HouseholdVault y = new HouseholdVault();
        y.question(5, -1);
        y.question(2, 0);
        y.question(2, -1);
        y.mark(0, true);
        for (int h = 0; h < 2; h++) y.answer(y.household(), 0, -1, 5);
        y.answer(0, 2, -1, 7);
        edges.is("five PERSONS end ahead of the next QUESTION", y.doubles(), 1);
    }

    private void doublesInOrder() {
        edges.about("Terms", "by the first, then the second one.");
        HouseholdVault x = homesWith(2, 1, 2, 1, 2, 1);
        x.mark(0, true);
        int[][] wanted = {{0, 2}, {0, 4}, {1, 3}, {2, 4}};
        edges.is("how many", x.doubles(), 4);
        for (int k = 0; k < 4; k++) {
            edges.is("first of " + k, x.doubleAt(k, 0), wanted[k][0]);
            edges.is("second of " + k, x.doubleAt(k, 1), wanted[k][1]);
        }
    }

    private void doublesOfNoneMarked() {
        edges.about("Terms", "(None is MARKED: there are none.)");
        HouseholdVault x = homesWith(2, 1, 1, 1);
        edges.is("none is MARKED", x.doubles(), 0);
        edges.is("none is there", x.doubleAt(0, 0), BAD);
        x.mark(0, true);
        edges.is("one is MARKED", x.doubles(), 3);
        x.mark(0, false);
        edges.is("none is any more", x.doubles(), 0);
        HouseholdVault empty = new HouseholdVault();
        empty.household();
        empty.household();
        edges.is("no QUESTIONS", empty.doubles(), 0);
    }

    private void rankTells() {
        edges.about("Promise 29", "HOUSEHOLD number k in THE RANK by a QUESTION.");
        HouseholdVault x = Edges.built(Scene::crowd);
        ranks("WHOLE", x, Scene.WHOLE, 2, 1, 0);
        ranks("a ROSTER", x, Scene.ROSTER, 2, 0, 1);
        ranks("a SUM", x, Scene.SUM, 0, 1, 2);
        ranks("a MAP", x, Scene.MAP, 1, 0, 2);
        edges.is("the last of a full vault", Edges.built(Scene::full).rank(Scene.WHOLE, 39), 39);
    }

    private void rankBad() {
        edges.about("Promise 29", "BAD;");
        for (int q : Edges.noneOf(Scene.QUESTIONS)) {
            edges.refused("question " + q, Scene::crowd, x -> x.rank(q, 0), BAD);
        }
        for (int k : Edges.noneOf(Scene.HOUSEHOLDS)) {
            edges.refused("k " + k, Scene::crowd, x -> x.rank(Scene.WHOLE, k), BAD);
        }
        edges.refused("number 40 of a full vault", Scene::full, x -> x.rank(Scene.WHOLE, 40), BAD);
        edges.refused("no HOUSEHOLDS", Scene::kinds, x -> x.rank(Scene.WHOLE, 0), BAD);
    }

    private void rankKind() {
        edges.about("Promise 29", "KIND.");
        int[] wrong = {Scene.CODES, Scene.CODE_IN, Scene.CODES_IN, Scene.WHOLE_IN, Scene.CENTS_IN, Scene.DAY_IN,
            Scene.MAP_IN};
        for (int q : wrong) edges.refused("question " + q, Scene::crowd, x -> x.rank(q, 0), KIND);
    }

    private void partTells() {
        edges.about("Promise 30", "THE PART up / low; 0, if there are no VALUES.");
        HouseholdVault x = Edges.built(Scene::crowd);
        int all = x.ask(2, Scene.ROSTER, -1);
        edges.is("the least of two", x.part(Scene.WHOLE, all, 0, 1), -4);
        edges.is("the greatest of two", x.part(Scene.WHOLE, all, 1, 1), 12);
        edges.is("of one", x.part(Scene.WHOLE, Scene.AT_TOP, 0, 1), 12);
        int none = x.logic(2, all, 0);
        edges.is("of none it is so", x.part(Scene.WHOLE, none, 0, 1), 0);
        edges.is("those of whom it is so are MISSING", x.part(Scene.DAY, Scene.AT_TOP, 1, 1), 0);
        HouseholdVault empty = new HouseholdVault();
        empty.question(2, -1);
        empty.ask(3, 0, 0);
        edges.is("no HOUSEHOLDS", empty.part(0, 0, 0, 1), 0);
        edges.is("no HOUSEHOLDS", empty.part(0, 0, 1, 1), 0);
    }

    private void partBad() {
        edges.about("Promise 30", "0: BAD,");
        for (int q : Edges.noneOf(Scene.QUESTIONS)) {
            edges.refused("question " + q, Scene::crowd, x -> x.part(q, Scene.AT_TOP, 0, 1), 0);
        }
        for (int c : Edges.noneOf(Scene.CONDITIONS)) {
            edges.refused("condition " + c, Scene::crowd, x -> x.part(Scene.WHOLE, c, 0, 1), 0);
        }
        for (int up : new int[] {Integer.MIN_VALUE, -1, 6, Integer.MAX_VALUE}) {
            edges.refused("up " + up, Scene::crowd, x -> x.part(Scene.WHOLE, Scene.AT_TOP, up, 5), 0);
        }
        for (int low : new int[] {Integer.MIN_VALUE, -1, 0, 1001, Integer.MAX_VALUE}) {
            edges.refused("low " + low, Scene::crowd, x -> x.part(Scene.WHOLE, Scene.AT_TOP, 0, low), 0);
        }
        edges.is("up 5 of 5", Edges.built(Scene::crowd).part(Scene.WHOLE, Scene.AT_TOP, 5, 5), 12);
        edges.is("low 1000", Edges.built(Scene::crowd).part(Scene.WHOLE, Scene.AT_TOP, 0, 1000), 12);
    }

    private void partKind() {
        edges.about("Promise 30", "KIND, too.");
        int[] wrong = {Scene.CODE, Scene.CODES, Scene.ROSTER, Scene.CODE_IN, Scene.WHOLE_IN, Scene.CENTS_IN,
            Scene.DAY_IN, Scene.MAP, Scene.MAP_IN};
        for (int q : wrong) edges.refused("question " + q, Scene::crowd, x -> x.part(q, Scene.AT_TOP, 0, 1), 0);
        for (int c : new int[] {Scene.IN_ROSTER, Scene.BOTH_IN, Scene.IN_ROSTER_2}) {
            edges.refused("condition " + c, Scene::crowd, x -> x.part(Scene.WHOLE, c, 0, 1), 0);
        }
    }

    private void markTells() {
        edges.about("Promise 31", "A QUESTION is MARKED, or not: whether it was (1, 0).");
        HouseholdVault x = Edges.built(Scene::crowd);
        for (int q : new int[] {Scene.CODE, Scene.CODES, Scene.WHOLE, Scene.CENTS, Scene.DAY, Scene.ROSTER_2}) {
            edges.is("it was not", x.mark(q, false), 0);
            edges.is("it was not", x.mark(q, true), 0);
            edges.is("it was", x.mark(q, true), 1);
            edges.is("it is", x.of(q, 5), 1);
            edges.is("it was", x.mark(q, false), 1);
            edges.is("it is not", x.of(q, 5), 0);
        }
        HouseholdVault full = Edges.built(Scene::full);
        edges.is("the last one was not", full.mark(23, true), 0);
        edges.is("the last one was", full.mark(23, false), 1);
    }

    private void markBad() {
        edges.about("Promise 31", "BAD;");
        for (int q : Edges.noneOf(Scene.QUESTIONS)) {
            edges.refused("question " + q, Scene::crowd, x -> x.mark(q, true), BAD);
            edges.refused("question " + q + ", not", Scene::crowd, x -> x.mark(q, false), BAD);
        }
    }

    private void markKind() {
        edges.about("Promise 31", "KIND: IN a ROSTER, MADE.");
        int[] wrong = {Scene.CODE_IN, Scene.CODES_IN, Scene.WHOLE_IN, Scene.CENTS_IN, Scene.DAY_IN, Scene.WHOLE_IN_2,
            Scene.MAP, Scene.SUM, Scene.HOW_MANY, Scene.MAP_IN};
        for (int q : wrong) {
            edges.refused("question " + q, Scene::crowd, x -> x.mark(q, true), KIND);
            edges.refused("question " + q + ", not", Scene::crowd, x -> x.mark(q, false), KIND);
        }
    }

    private void doublesTells() {
        edges.about("Promise 32", "How many DOUBLES there are.");
        edges.is("of nothing", new HouseholdVault().doubles(), 0);
        HouseholdVault x = new HouseholdVault();
        x.question(2, -1);
        x.mark(0, true);
        int pairs = 0;
        for (int h = 0; h < 40; h++) {
            x.household();
            pairs += h;
            edges.is("all alike of " + (h + 1), x.doubles(), pairs);
        }
        edges.is("the last of 780", x.doubleAt(779, 0), 38);
        edges.is("the last of 780", x.doubleAt(779, 1), 39);
        edges.is("behind the last of 780", x.doubleAt(780, 0), BAD);
    }

    private void doubleAtTells() {
        edges.about("Promise 33", "Of DOUBLES number k: 0 the first, 1 the second HOUSEHOLD.");
        HouseholdVault x = homesWith(2, 5, 6, 5);
        x.mark(0, true);
        edges.is("the first", x.doubleAt(0, 0), 0);
        edges.is("the second", x.doubleAt(0, 1), 2);
        x.answer(0, 0, -1, 6);
        edges.is("now the second", x.doubleAt(0, 1), 1);
    }

    /** A crowd in which HOUSEHOLDS 1 and 2 are the one pair. */
    private static void pair(HouseholdVault x) {
        Scene.crowd(x);
        x.answer(1, Scene.ROSTER, -1, 0);
    }

    private void doubleAtBad() {
        edges.about("Promise 33", "BAD.");
        edges.is("one pair", Edges.built(RankEdges::pair).doubles(), 1);
        for (int k : Edges.noneOf(1)) edges.refused("k " + k, RankEdges::pair, x -> x.doubleAt(k, 0), BAD);
        for (int what : Edges.noneOf(2)) edges.refused("what " + what, RankEdges::pair, x -> x.doubleAt(0, what), BAD);
        edges.refused("0 of none", Scene::empty, x -> x.doubleAt(0, 0), BAD);
        edges.refused("0 of none that is MARKED", Scene::full, x -> {
            x.mark(Scene.ROSTER, false);
            int told = x.doubleAt(0, 0);
            x.mark(Scene.ROSTER, true);
            return told;
        }, BAD);
    }
}
