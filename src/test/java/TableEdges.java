/** The edges of what the document says of WEIGHTS and TABLES: terms of part 3, promises 22 to 28. */
final class TableEdges {
    private static final int BAD = -1, KIND = -2;
    private final Edges edges;

    TableEdges(Edges edges) {
        this.edges = edges;
    }

    void look() {
        weights();
        rowsAndColumns();
        countAndWeight();
        itIsAsItWas();
        sharesOfN();
        theRestInOnes();
        ofSeveralTheFirst();
        heldBack();
        lines();
        follow();
        coverInTheRow();
        coverInTheColumn();
        coverOfAll();
        theLeastOfSeveralTheFirst();
        coverUntilThereAreNone();
        weightTellsOne();
        weightBad();
        tableTellsHowManyCells();
        tableInPlaceOfTheOneBefore();
        tableBadAndKind();
        cellTells();
        cellBad();
        sharesTellsOne();
        sharesBad();
        sharesWithoutWeight();
        shareTells();
        shareBad();
        shownTellsHowMany();
        shownAsIfNoneWereBefore();
        shownBad();
        followsTells();
        followsBad();
    }

    /** A TABLE with these COUNTS, by two QUESTIONS with as many CODES as there are rows and columns but one. */
    private static HouseholdVault grid(int[]... counts) {
        HouseholdVault x = new HouseholdVault();
        x.question(0, -1);
        x.question(0, -1);
        for (int i = 0; i < counts.length - 1; i++) x.code(0, 100 - i);
        for (int j = 0; j < counts[0].length - 1; j++) x.code(1, -100 + j);
        for (int i = 0; i < counts.length; i++) {
            for (int j = 0; j < counts[i].length; j++) {
                for (int n = 0; n < counts[i][j]; n++) {
                    int h = x.household();
                    if (i < counts.length - 1) x.answer(h, 0, -1, 100 - i);
                    if (j < counts[i].length - 1) x.answer(h, 1, -1, -100 + j);
                }
            }
        }
        x.table(0, 1);
        return x;
    }

    private static int[] row(int... counts) {
        return counts;
    }

    /** A TABLE with these COUNTS by one QUESTION. */
    private static HouseholdVault line(int... counts) {
        int[][] rows = new int[counts.length][];
        for (int i = 0; i < counts.length; i++) rows[i] = row(counts[i]);
        HouseholdVault x = grid(rows);
        x.table(0, -1);
        return x;
    }

    /** Of each cell a character: x is HELD BACK. */
    private void held(String told, HouseholdVault x, String... rows) {
        for (int i = 0; i < rows.length; i++) {
            for (int j = 0; j < rows[i].length(); j++) {
                String at = told + ", cell " + i + ", " + j;
                edges.is(at, x.cell(i, j, 2), rows[i].charAt(j) == 'x' ? 1 : 0);
            }
        }
    }

    private void shares(String told, HouseholdVault x, int[]... wanted) {
        for (int i = 0; i < wanted.length; i++) {
            for (int j = 0; j < wanted[i].length; j++) {
                edges.is(told + ", share " + i + ", " + j, x.share(i, j), wanted[i][j]);
            }
        }
    }

    private void weights() {
        edges.about("Terms", "WEIGHTS of HOUSEHOLDS are up / low, 0 .. 1000 by 1 .. 10; 1 / 1 at first.");
        HouseholdVault x = line(1, 0);
        edges.is("at first", x.cell(0, 0, 1), 2520);
        int[][] good = {{0, 1}, {0, 10}, {1, 10}, {1000, 1}, {1000, 10}, {1, 7}, {1, 9}, {7, 8}};
        long[] wanted = {0, 0, 252, 2520000, 252000, 360, 280, 2205};
        for (int n = 0; n < good.length; n++) {
            edges.is("weight", x.weight(0, good[n][0], good[n][1]), 1);
            x.table(0, -1);
            edges.is(good[n][0] + " / " + good[n][1], x.cell(0, 0, 1), wanted[n]);
        }
        int[][] bad = {{-1, 1}, {1001, 1}, {1, 0}, {1, 11}, {0, 0}, {1001, 11}, {-1, -1}};
        for (int[] pair : bad) edges.is(pair[0] + " / " + pair[1], x.weight(0, pair[0], pair[1]), BAD);
        x.table(0, -1);
        edges.is("it is as it was", x.cell(0, 0, 1), 2205);
        HouseholdVault all = line(40, 0);
        for (int h = 0; h < 40; h++) all.weight(h, 1000, 1);
        all.table(0, -1);
        edges.is("the greatest in one cell", all.cell(0, 0, 1), 100800000);
    }

    private void rowsAndColumns() {
        edges.about("Terms", "A TABLE by one or two QUESTIONS of KIND CODE at the TOP has a row for each CODE of the "
            + "first one and behind them one for MISSING; columns so by the second one, or one alone;");
        HouseholdVault x = new HouseholdVault();
        x.question(0, -1);
        x.question(0, -1);
        for (int n = 0; n < 9; n++) {
            edges.is("cells by one", x.table(0, -1), n + 1);
            edges.is("rows", x.count(4), n + 1);
            edges.is("columns", x.count(5), 1);
            edges.is("cells by two", x.table(0, 1), (n + 1) * (n + 1));
            edges.is("columns", x.count(5), n + 1);
            x.code(0, n);
            x.code(1, -n);
        }
        x.household();
        x.household();
        x.answer(0, 0, -1, 7);
        x.answer(0, 1, -1, 0);
        x.table(0, 1);
        edges.is("the last CODE, the first CODE", x.cell(7, 0, 0), 1);
        edges.is("MISSING, MISSING", x.cell(8, 8, 0), 1);
        x.missing(0, 1, -1, 5);
        x.table(0, 1);
        edges.is("the last CODE, MISSING", x.cell(7, 8, 0), 1);
        edges.is("by one twice", x.table(0, 0), 81);
        edges.is("the last CODE, the last CODE", x.cell(7, 7, 0), 1);
    }

    private void countAndWeight() {
        edges.about("Terms", "in each cell COUNT and WEIGHT of the HOUSEHOLDS.");
        HouseholdVault x = grid(row(2, 0), row(0, 38));
        edges.is("COUNT", x.cell(0, 0, 0), 2);
        edges.is("COUNT of none", x.cell(0, 1, 0), 0);
        edges.is("WEIGHT of none", x.cell(0, 1, 1), 0);
        edges.is("COUNT of all others", x.cell(1, 1, 0), 38);
        edges.is("WEIGHT of all others", x.cell(1, 1, 1), 38 * 2520);
        x.weight(0, 0, 1);
        x.weight(1, 1, 10);
        x.table(0, 1);
        edges.is("one without WEIGHT is counted", x.cell(0, 0, 0), 2);
        edges.is("the WEIGHT of the other", x.cell(0, 0, 1), 252);
    }

    private void itIsAsItWas() {
        edges.about("Terms", "It is as it was when it was made.");
        HouseholdVault x = grid(row(1, 1), row(1, 1));
        x.shares(8);
        x.weight(0, 9, 1);
        x.answer(1, 1, -1, -100);
        x.household();
        x.code(0, 1);
        x.question(0, -1);
        x.freeze();
        edges.is("rows", x.count(4), 2);
        edges.is("columns", x.count(5), 2);
        for (int k = 0; k < 4; k++) {
            edges.is("COUNT", x.cell(k / 2, k % 2, 0), 1);
            edges.is("WEIGHT", x.cell(k / 2, k % 2, 1), 2520);
            edges.is("SHARE", x.share(k / 2, k % 2), 2);
        }
        edges.is("a row that came later", x.cell(2, 0, 0), BAD);
        edges.is("SHARES by what was", x.shares(4), 1);
        edges.is("SHARES by what was", x.share(0, 0), 1);
        edges.is("SHOWN by what was", x.shown(2), 4);
    }

    private void sharesOfN() {
        edges.about("Terms", "SHARES of n (0 .. 1000000): of each cell n times its WEIGHT by that of all, cut;");
        HouseholdVault x = grid(row(1, 2), row(3, 1));
        int[] bad = {-1, 1000001, Integer.MIN_VALUE, Integer.MAX_VALUE};
        for (int n : bad) edges.is("n " + n, x.shares(n), BAD);
        edges.is("n 0", x.shares(0), 1);
        shares("0", x, row(0, 0), row(0, 0));
        edges.is("n 7", x.shares(7), 1);
        shares("7", x, row(1, 2), row(3, 1));
        edges.is("n 1000000", x.shares(1000000), 1);
        // 142857 1/7, 285714 2/7, 428571 3/7, 142857 1/7: one is left.
        shares("1000000", x, row(142857, 285714), row(428572, 142857));
        HouseholdVault all = line(39, 1);
        for (int h = 0; h < 39; h++) all.weight(h, 1000, 1);
        all.weight(39, 1, 10);
        all.table(0, -1);
        all.shares(1000000);
        // n times the WEIGHT is far beyond an int: 999997.4.. and 2.56..
        shares("beyond an int", all, row(999997), row(3));
        HouseholdVault one = line(40, 0);
        for (int h = 0; h < 40; h++) one.weight(h, 1000, 1);
        one.table(0, -1);
        one.shares(1000000);
        shares("all in one cell", one, row(1000000), row(0));
    }

    private void theRestInOnes() {
        edges.about("Terms", "the rest in ones to those with the greatest remainders,");
        HouseholdVault x = grid(row(1, 2), row(3, 1));
        x.shares(1);
        shares("remainders 1, 2, 3, 1", x, row(0, 0), row(1, 0));
        x.shares(3);
        shares("remainders 3, 6, 2, 3: two are left, of which one goes to 6", x, row(1, 1), row(1, 0));
        x.shares(10);
        shares("remainders 3, 6, 2, 3", x, row(2, 3), row(4, 1));
        HouseholdVault two = line(1, 1, 0);
        two.weight(0, 1, 10);
        two.weight(1, 1, 9);
        two.table(0, -1);
        two.shares(1);
        shares("the greater by little", two, row(0), row(1), row(0));
    }

    private void ofSeveralTheFirst() {
        edges.about("Terms", "of several the first ones (row by row), each once.");
        HouseholdVault x = grid(row(1, 1, 1), row(1, 1, 1), row(1, 1, 1));
        x.shares(1);
        shares("1", x, row(1, 0, 0), row(0, 0, 0), row(0, 0, 0));
        x.shares(4);
        shares("4", x, row(1, 1, 1), row(1, 0, 0), row(0, 0, 0));
        x.shares(8);
        shares("8", x, row(1, 1, 1), row(1, 1, 1), row(1, 1, 0));
        x.shares(9);
        shares("9", x, row(1, 1, 1), row(1, 1, 1), row(1, 1, 1));
        x.shares(17);
        shares("17", x, row(2, 2, 2), row(2, 2, 2), row(2, 2, 1));
        HouseholdVault gaps = grid(row(0, 1), row(1, 1));
        gaps.shares(2);
        shares("a cell without WEIGHT has none", gaps, row(0, 1), row(1, 0));
    }

    private void heldBack() {
        edges.about("Terms", "SHOWN with a threshold: cells whose COUNT is above 0 and below it are HELD BACK.");
        HouseholdVault x = line(3, 3, 0, 4);
        edges.is("below 3: none", x.shown(3), 0);
        edges.is("below 4: 3 and 3", x.shown(4), 2);
        held("below 4", x, "x", "x", ".", ".");
        edges.is("below 5: 4, too, but not 0", x.shown(5), 3);
        held("below 5", x, "x", "x", ".", "x");
        edges.is("below 1: none", x.shown(1), 0);
        edges.is("below 1000: all but 0", x.shown(1000), 3);
        HouseholdVault all = line(40, 0);
        edges.is("40 is not below 40", all.shown(40), 0);
        edges.is("40 is below 41, and another one goes with it", all.shown(41), 2);
    }

    private void lines() {
        edges.about("Terms", "LINES are, of one QUESTION, all cells together; of two, each row and each column.");
        HouseholdVault one = line(1, 1, 9, 9);
        edges.is("two of one LINE", one.shown(2), 2);
        edges.is("none FOLLOWS", one.follows(), 0);
        HouseholdVault column = grid(row(1), row(1), row(9));
        edges.is("each row is a LINE: all are HELD BACK", column.shown(2), 3);
        edges.is("and FOLLOW", column.follows(), 1);
        HouseholdVault across = grid(row(1, 1, 9));
        edges.is("each column is a LINE: all are HELD BACK", across.shown(2), 3);
        edges.is("and FOLLOW", across.follows(), 1);
        HouseholdVault ring = grid(row(1, 1, 5), row(1, 1, 5), row(5, 5, 5));
        edges.is("two of each row and column", ring.shown(2), 4);
        held("ring", ring, "xx.", "xx.", "...");
        edges.is("none FOLLOWS", ring.follows(), 0);
    }

    private void follow() {
        edges.about("Terms", "A cell HELD BACK FOLLOWS, if each table of whole numbers (any, below 0, too) that has "
            + "the same sum in each LINE, and the same in cells that are not HELD BACK, has the same in it.");
        HouseholdVault x = grid(row(1, 0), row(1, 0));
        edges.is("the column of 0 could be 1 and -1", x.shown(2), 4);
        edges.is("so that none FOLLOWS", x.follows(), 0);
        HouseholdVault six = grid(row(1, 5, 1), row(1, 1, 5), row(5, 1, 1));
        edges.is("a ring of six", six.shown(2), 6);
        held("six", six, "x.x", "xx.", ".xx");
        HouseholdVault tie = grid(row(1, 1, 4, 4), row(1, 1, 1, 4), row(4, 4, 1, 1), row(4, 4, 1, 1));
        edges.is("a tie between two rings FOLLOWS, though two are in its row", tie.shown(2), 10);
        held("tie", tie, "xx..", "xxxx", "..xx", "..xx");
    }

    private void coverInTheRow() {
        edges.about("Terms", "As long as one FOLLOWS, for the first that does (row by row): of the cells that are not "
            + "HELD BACK, in its row,");
        HouseholdVault x = grid(row(1, 3, 5), row(1, 1, 5), row(5, 2, 5));
        edges.is("3 in its row, though 2 is there", x.shown(2), 4);
        held("in its row", x, "xx.", "xx.", "...");
        HouseholdVault first = grid(row(1, 0, 0), row(1, 1, 0));
        edges.is("the first that does, not the last", first.shown(2), 4);
        held("the first that does", first, "xx.", "xx.");
        HouseholdVault byRow = grid(row(0, 1), row(1, 0), row(2, 0));
        edges.is("row by row, not column by column", byRow.shown(2), 6);
        HouseholdVault beforeColumn = grid(row(1, 0), row(1, 1), row(0, 0));
        edges.is("in its row, though its column has as little", beforeColumn.shown(2), 4);
        held("in its row", beforeColumn, "xx", "xx", "..");
    }

    private void coverInTheColumn() {
        edges.about("Terms", "or, if there are none, in its column,");
        HouseholdVault x = grid(row(1, 1), row(3, 1), row(2, 9));
        edges.is("its row is HELD BACK, 2 is the least of its column", x.shown(2), 6);
        HouseholdVault y = grid(row(1, 1), row(9, 1), row(10, 2));
        edges.is("9 in its column, though 2 is there", y.shown(2), 4);
        held("in its column", y, "xx", "xx", "..");
        HouseholdVault behind = grid(row(3, 0), row(0, 1), row(0, 1));
        edges.is("0 in the column of one that went with another", behind.shown(2), 4);
        held("in its column", behind, "..", "xx", "xx");
    }

    private void coverOfAll() {
        edges.about("Terms", "or else of all,");
        HouseholdVault x = grid(row(1, 1, 1), row(1, 9, 9), row(1, 9, 5));
        edges.is("row and column are HELD BACK, 5 is the least of all", x.shown(2), 7);
        held("of all", x, "xxx", "xx.", "x.x");
    }

    private void theLeastOfSeveralTheFirst() {
        edges.about("Terms", "that with the least COUNT, of several the first, is HELD BACK, too;");
        HouseholdVault least = line(4, 1, 3, 5);
        edges.is("the least", least.shown(2), 2);
        held("the least", least, ".", "x", "x", ".");
        HouseholdVault several = line(3, 1, 3, 3);
        edges.is("of several the first", several.shown(2), 2);
        held("of several the first", several, "x", "x", ".", ".");
        HouseholdVault nothing = line(3, 1, 0, 0);
        edges.is("an empty one is the least", nothing.shown(2), 2);
        held("an empty one", nothing, ".", "x", "x", ".");
        HouseholdVault inRow = grid(row(1, 4, 4), row(1, 1, 9), row(9, 5, 5));
        edges.is("of several in a row the first", inRow.shown(2), 4);
        held("in a row", inRow, "xx.", "xx.", "...");
        HouseholdVault inColumn = grid(row(1, 1), row(4, 1), row(4, 5));
        edges.is("of several in a column the first", inColumn.shown(2), 4);
        held("in a column", inColumn, "xx", "xx", "..");
        HouseholdVault ofAll = grid(row(1, 1, 1), row(1, 9, 5), row(1, 5, 9));
        edges.is("of several of all the first", ofAll.shown(2), 7);
        held("of all", ofAll, "xxx", "x.x", "xx.");
    }

    private void coverUntilThereAreNone() {
        edges.about("Terms", "if there are none, that is all.");
        HouseholdVault one = new HouseholdVault();
        one.question(0, -1);
        one.question(0, -1);
        one.household();
        one.table(0, -1);
        edges.is("one cell", one.shown(2), 1);
        edges.is("it FOLLOWS for ever", one.follows(), 1);
        one.table(0, 1);
        edges.is("one cell by two", one.shown(2), 1);
        edges.is("it FOLLOWS for ever", one.follows(), 1);
        HouseholdVault long9 = grid(row(1), row(2), row(3), row(4), row(5), row(6), row(7), row(8), row(0));
        edges.is("nine rows of one cell", long9.shown(2), 9);
        edges.is("each FOLLOWS", long9.follows(), 1);
        HouseholdVault wide9 = grid(row(0, 2, 3, 4, 5, 6, 7, 8, 1));
        edges.is("nine columns of one cell", wide9.shown(2), 9);
        edges.is("each FOLLOWS", wide9.follows(), 1);
    }

    private void weightTellsOne() {
        edges.about("Promise 22", "A WEIGHT: 1.");
        HouseholdVault x = Edges.built(Scene::full);
        edges.is("of the first", x.weight(0, 0, 1), 1);
        edges.is("of the last", x.weight(39, 1000, 10), 1);
        edges.is("the same again", x.weight(39, 1000, 10), 1);
    }

    private void weightBad() {
        edges.about("Promise 22", "BAD.");
        for (int h : Edges.noneOf(Scene.HOUSEHOLDS)) {
            edges.refused("household " + h, Scene::crowd, x -> x.weight(h, 2, 1), BAD);
        }
        for (int up : new int[] {Integer.MIN_VALUE, -1, 1001, Integer.MAX_VALUE}) {
            edges.refused("up " + up, Scene::crowd, x -> x.weight(1, up, 1), BAD);
        }
        for (int low : new int[] {Integer.MIN_VALUE, -1, 0, 11, Integer.MAX_VALUE}) {
            edges.refused("low " + low, Scene::crowd, x -> x.weight(1, 2, low), BAD);
        }
    }

    private void tableTellsHowManyCells() {
        edges.about("Promise 23", "A TABLE by q, and r (-1: by q alone),");
        HouseholdVault x = Edges.built(Scene::crowd);
        edges.is("by q alone", x.table(Scene.CODE, -1), 3);
        edges.is("columns", x.count(5), 1);
        edges.is("by q and r", x.table(Scene.CODE, Scene.MAP), 9);
        edges.is("columns", x.count(5), 3);
        edges.is("by a MAP alone", x.table(Scene.MAP, -1), 3);
        edges.is("by q and q", x.table(Scene.CODE, Scene.CODE), 9);
        HouseholdVault none = new HouseholdVault();
        none.question(0, -1);
        edges.is("without CODES and HOUSEHOLDS", none.table(0, -1), 1);
        edges.is("its cell", none.cell(0, 0, 0), 0);
        edges.is("without CODES by two", none.table(0, 0), 1);
    }

    private void tableInPlaceOfTheOneBefore() {
        edges.about("Promise 23", "in place of the one before: how many cells.");
        HouseholdVault x = line(1, 1, 0);
        x.shares(10);
        x.shown(2);
        edges.is("HELD BACK before", x.cell(0, 0, 2), 1);
        edges.is("anew", x.table(0, -1), 3);
        edges.is("HELD BACK no more", x.cell(0, 0, 2), 0);
        edges.is("no SHARES any more", x.share(0, 0), 0);
        edges.is("none FOLLOWS", x.follows(), 0);
        edges.is("a lesser one", x.table(1, -1), 1);
        edges.is("its cells alone are there", x.cell(1, 0, 0), BAD);
        edges.is("its cells alone are there", x.share(1, 0), BAD);
        HouseholdVault y = grid(row(2, 3), row(5, 4));
        // Remainders 12, 11, 9, 10, of which 9 gets none; then 6 and 8: it may not come behind them.
        edges.is("SHARES of four", y.shares(13), 1);
        y.table(0, -1);
        edges.is("SHARES of two", y.shares(4), 1);
        shares("of two", y, row(1), row(3));
        y.table(1, 0);
        edges.is("turned", y.shares(14), 1);
        shares("turned", y, row(2, 5), row(3, 4));
    }

    private void tableBadAndKind() {
        edges.about("Promise 23", "BAD; KIND.");
        for (int q : Edges.noneOf(Scene.QUESTIONS)) {
            edges.refused("q " + q, Scene::crowd, x -> x.table(q, -1), BAD);
            edges.refused("q " + q + " with r", Scene::crowd, x -> x.table(q, Scene.CODE), BAD);
        }
        for (int r : Edges.noneButTop(Scene.QUESTIONS)) {
            edges.refused("r " + r, Scene::crowd, x -> x.table(Scene.CODE, r), BAD);
        }
        for (int q = 0; q < Scene.QUESTIONS; q++) {
            int one = q;
            if (q == Scene.CODE || q == Scene.MAP) continue;
            edges.refused("q " + q, Scene::crowd, x -> x.table(one, -1), KIND);
            edges.refused("q " + q + " with r", Scene::crowd, x -> x.table(one, Scene.CODE), KIND);
            edges.refused("r " + q, Scene::crowd, x -> x.table(Scene.CODE, one), KIND);
        }
        HouseholdVault none = Edges.built(Scene::kinds);
        edges.is("refused where no TABLE is", none.table(Scene.WHOLE, -1), KIND);
        edges.is("there is none", none.follows(), BAD);
    }

    private void cellTells() {
        edges.about("Promise 24", "Of a cell (row, column from 0): 0 COUNT, 1 WEIGHT in 2520ths, "
            + "2 whether it is HELD BACK (1, 0; by shown()).");
        HouseholdVault x = grid(row(3, 0), row(0, 1));
        x.weight(3, 1, 8);
        x.table(0, 1);
        edges.is("not by shown() yet", x.cell(1, 1, 2), 0);
        x.shown(2);
        long[][] wanted = {{3, 3 * 2520, 1}, {0, 0, 1}, {0, 0, 1}, {1, 315, 1}};
        for (int k = 0; k < 4; k++) {
            for (int what = 0; what < 3; what++) {
                edges.is("cell " + k + ", " + what, x.cell(k / 2, k % 2, what), wanted[k][what]);
            }
        }
        x.shown(1);
        edges.is("not by this shown()", x.cell(1, 1, 2), 0);
    }

    private void cellBad() {
        edges.about("Promise 24", "BAD: also without a TABLE.");
        for (int n : Edges.noneOf(3)) {
            edges.refused("row " + n, Scene::crowd, x -> x.cell(n, 0, 0), BAD);
            edges.refused("column " + n, Scene::crowd, x -> x.cell(0, n, 0), BAD);
            edges.refused("what " + n, Scene::crowd, x -> x.cell(0, 0, n), BAD);
        }
        for (int what = 0; what < 3; what++) {
            int one = what;
            edges.refused("without a TABLE", Scene::kinds, x -> x.cell(0, 0, one), BAD);
            edges.is("the last one", Edges.built(Scene::crowd).cell(2, 2, what) < 0 ? 1 : 0, 0);
        }
        HouseholdVault widest = grid(new int[9], new int[9], new int[9], new int[9], new int[9], new int[9], new int[9],
            new int[9], new int[9]);
        edges.is("the last of 81", widest.cell(8, 8, 0), 0);
        edges.is("row 9", widest.cell(9, 0, 0), BAD);
        edges.is("column 9", widest.cell(0, 9, 0), BAD);
        widest.household();
        widest.table(0, 1);
        edges.is("the last of 81 is counted", widest.cell(8, 8, 0), 1);
        edges.is("SHARES of 81", widest.shares(1000000), 1);
        edges.is("the last SHARE", widest.share(8, 8), 1000000);
    }

    private void sharesTellsOne() {
        edges.about("Promise 25", "SHARES of n are reckoned: 1.");
        HouseholdVault x = Edges.built(Scene::crowd);
        edges.is("0", x.shares(0), 1);
        edges.is("1000000", x.shares(1000000), 1);
        edges.is("again", x.shares(1000000), 1);
        long all = 0;
        for (int k = 0; k < 9; k++) all += x.share(k / 3, k % 3);
        edges.is("nothing is left", all, 1000000);
    }

    private void sharesBad() {
        edges.about("Promise 25", "BAD: also without a TABLE;");
        for (int n : new int[] {Integer.MIN_VALUE, -1, 1000001, Integer.MAX_VALUE}) {
            edges.refused("n " + n, Scene::crowd, x -> x.shares(n), BAD);
            edges.refused("n " + n + " without a TABLE", Scene::kinds, x -> x.shares(n), BAD);
        }
        edges.refused("without a TABLE", Scene::kinds, x -> x.shares(0), BAD);
        edges.refused("behind a TABLE that was refused", x -> {
            Scene.kinds(x);
            x.table(Scene.WHOLE, -1);
        }, x -> x.shares(0), BAD);
    }

    private void sharesWithoutWeight() {
        edges.about("Promise 25", "0: all WEIGHTS are 0 (then all SHARES are 0).");
        HouseholdVault x = grid(row(1, 1), row(0, 0));
        x.shares(5);
        x.weight(0, 0, 1);
        x.weight(1, 0, 10);
        x.table(0, 1);
        edges.is("all are 0", x.shares(5), 0);
        shares("all are 0", x, row(0, 0), row(0, 0));
        edges.is("n 0", x.shares(0), 0);
        edges.is("n 1000000", x.shares(1000000), 0);
        edges.is("n is BAD all the same", x.shares(-1), BAD);
        edges.is("n is BAD all the same", x.shares(1000001), BAD);
        x.weight(1, 1, 10);
        edges.is("the TABLE is as it was", x.shares(5), 0);
        x.table(0, 1);
        edges.is("one is not 0", x.shares(5), 1);
        shares("one is not 0", x, row(0, 5), row(0, 0));
        HouseholdVault none = grid(row(0, 0), row(0, 0));
        edges.is("no HOUSEHOLDS", none.shares(5), 0);
        shares("no HOUSEHOLDS", none, row(0, 0), row(0, 0));
    }

    private void shareTells() {
        edges.about("Promise 26", "The SHARE of a cell as it was reckoned last (0 behind table()).");
        HouseholdVault x = grid(row(1, 2), row(3, 4));
        shares("not reckoned", x, row(0, 0), row(0, 0));
        x.shares(10);
        shares("reckoned", x, row(1, 2), row(3, 4));
        x.shares(20);
        shares("reckoned last", x, row(2, 4), row(6, 8));
        x.shares(-1);
        x.shares(1000001);
        shares("not by one that is refused", x, row(2, 4), row(6, 8));
        x.shown(3);
        shares("not by shown()", x, row(2, 4), row(6, 8));
        x.table(0, 9);
        shares("not behind a table() that is refused", x, row(2, 4), row(6, 8));
        x.table(0, 1);
        shares("behind table()", x, row(0, 0), row(0, 0));
    }

    private void shareBad() {
        edges.about("Promise 26", "BAD.");
        for (int n : Edges.noneOf(3)) {
            edges.refused("row " + n, Scene::crowd, x -> x.share(n, 0), BAD);
            edges.refused("column " + n, Scene::crowd, x -> x.share(0, n), BAD);
        }
        edges.refused("without a TABLE", Scene::kinds, x -> x.share(0, 0), BAD);
        HouseholdVault one = line(1, 1);
        edges.is("the last", one.share(1, 0), 0);
        edges.is("a second column of one", one.share(0, 1), BAD);
    }

    private void shownTellsHowMany() {
        edges.about("Promise 27", "SHOWN with a threshold (1 .. 1000): how many cells are HELD BACK");
        HouseholdVault x = line(1, 2, 9);
        edges.is("1", x.shown(1), 0);
        edges.is("2, and one that goes with it", x.shown(2), 2);
        edges.is("3", x.shown(3), 2);
        edges.is("9", x.shown(9), 2);
        edges.is("10", x.shown(10), 3);
        edges.is("1000", x.shown(1000), 3);
        HouseholdVault none = line(0, 0, 0);
        edges.is("no HOUSEHOLDS", none.shown(1000), 0);
        HouseholdVault widest = grid(new int[9], new int[9], new int[9], new int[9], new int[9], new int[9], new int[9],
            new int[9], row(0, 0, 0, 0, 0, 0, 0, 0, 1));
        // The last row goes cell by cell, then 0, 0 in its column, 0, 1 beside it, and the first of each column.
        edges.is("the last of 81, with two rows", widest.shown(2), 18);
        String open = ".........";
        held("of 81", widest, "xxxxxxxxx", open, open, open, open, open, open, open, "xxxxxxxxx");
        edges.is("none FOLLOWS", widest.follows(), 0);
    }

    private void shownAsIfNoneWereBefore() {
        edges.about("Promise 27", "(as if none were before).");
        HouseholdVault x = line(1, 2, 9, 9);
        x.shown(1000);
        edges.is("fewer", x.shown(3), 2);
        held("fewer", x, "x", "x", ".", ".");
        edges.is("none", x.shown(1), 0);
        held("none", x, ".", ".", ".", ".");
    }

    private void shownBad() {
        edges.about("Promise 27", "BAD: also without a TABLE.");
        for (int threshold : new int[] {Integer.MIN_VALUE, -1, 0, 1001, Integer.MAX_VALUE}) {
            edges.refused("threshold " + threshold, Scene::crowd, x -> x.shown(threshold), BAD);
            edges.refused("threshold " + threshold + " without a TABLE", Scene::kinds, x -> x.shown(threshold), BAD);
        }
        edges.refused("without a TABLE", Scene::kinds, x -> x.shown(1), BAD);
        edges.refused("without a TABLE", Scene::kinds, x -> x.shown(1000), BAD);
    }

    private void followsTells() {
        edges.about("Promise 28",
            "0: no cell that is HELD BACK FOLLOWS; else 1 and the number of the first (row by row).");
        HouseholdVault x = line(1, 9);
        edges.is("none is HELD BACK", x.follows(), 0);
        x.shown(2);
        edges.is("two of one LINE", x.follows(), 0);
        HouseholdVault column = grid(row(9), row(1));
        edges.is("none is HELD BACK", column.follows(), 0);
        column.shown(2);
        edges.is("number 0, and 1", column.follows(), 1);
        column.shown(1);
        edges.is("none is HELD BACK", column.follows(), 0);
    }

    private void followsBad() {
        edges.about("Promise 28", "BAD: without a TABLE.");
        edges.refused("of nothing", Scene::empty, x -> x.follows(), BAD);
        edges.refused("of QUESTIONS", Scene::kinds, x -> x.follows(), BAD);
        HouseholdVault x = new HouseholdVault();
        x.question(0, -1);
        x.table(0, -1);
        edges.is("with the least TABLE", x.follows(), 0);
    }
}
