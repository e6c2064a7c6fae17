/** Promises 22 to 28: weight, table, cell, shares, share, shown, follows. */
final class TablesTest {
    private static final int BAD = -1, KIND = -2;
    private static final Due due = new Due("TablesTest");

    public static void main(String[] args) {
        weight();
        tableRefusals();
        tableByOne();
        tableByTwo();
        tableOfMaps();
        tableStays();
        widestTable();
        cell();
        shares();
        sharesOfEqualRests();
        sharesWithoutWeight();
        sharesOfMuch();
        shownByOne();
        shownOfOneCell();
        shownByTwo();
        coverInTheRow();
        coverInTheColumn();
        coverAnywhere();
        tiesBetweenRings();
        shownAgain();
        due.end();
    }

    /** Households in a table of two questions, with as many codes as there are rows and columns but one. */
    private static HouseholdVault grid(int[][] counts) {
        HouseholdVault x = new HouseholdVault();
        x.question(0, -1);
        x.question(0, -1);
        for (int i = 0; i < counts.length - 1; i++) x.code(0, 10 + i);
        for (int j = 0; j < counts[0].length - 1; j++) x.code(1, 20 + j);
        for (int i = 0; i < counts.length; i++) {
            for (int j = 0; j < counts[i].length; j++) {
                for (int n = 0; n < counts[i][j]; n++) {
                    int h = x.household();
                    if (i < counts.length - 1) x.answer(h, 0, -1, 10 + i);
                    if (j < counts[i].length - 1) x.answer(h, 1, -1, 20 + j);
                }
            }
        }
        due.is("cells", x.table(0, 1), counts.length * counts[0].length);
        return x;
    }

    /** Whether the cells that are held back are those with an x. */
    private static void held(String what, HouseholdVault x, String... rows) {
        for (int i = 0; i < rows.length; i++) {
            for (int j = 0; j < rows[i].length(); j++) {
                due.is(what + ": held back " + i + ", " + j, x.cell(i, j, 2), rows[i].charAt(j) == 'x' ? 1 : 0);
            }
        }
    }

    private static void weight() {
        HouseholdVault x = new HouseholdVault();
        x.question(0, -1);
        due.is("no such household", x.weight(0, 1, 1), BAD);
        x.household();
        due.is("no such household", x.weight(-1, 1, 1), BAD);
        due.is("no such household", x.weight(1, 1, 1), BAD);
        due.is("up -1", x.weight(0, -1, 1), BAD);
        due.is("up 1001", x.weight(0, 1001, 1), BAD);
        due.is("low 0", x.weight(0, 1, 0), BAD);
        due.is("low -1", x.weight(0, 1, -1), BAD);
        due.is("low 11", x.weight(0, 1, 11), BAD);
        x.table(0, -1);
        due.is("1 / 1 at first", x.cell(0, 0, 1), 2520);
        for (int low = 1; low < 11; low++) {
            due.is("weight", x.weight(0, 7, low), 1);
            x.table(0, -1);
            due.is("7 / " + low, x.cell(0, 0, 1), 7 * 2520 / low);
        }
        x.weight(0, 1000, 1);
        x.weight(0, 5, 11);
        x.table(0, -1);
        due.is("the greatest, and a refusal changes nothing", x.cell(0, 0, 1), 2520000);
        x.weight(0, 0, 10);
        x.table(0, -1);
        due.is("none", x.cell(0, 0, 1), 0);
        due.is("it is counted all the same", x.cell(0, 0, 0), 1);
    }

    private static void tableRefusals() {
        HouseholdVault x = new HouseholdVault();
        for (int kind = 0; kind < 6; kind++) x.question(kind, -1);
        int inRoster = x.question(0, 5);
        int mapInRoster = x.map(x.question(2, 5));
        int sum = x.sum(7);
        due.is("no such question", x.table(-1, -1), BAD);
        due.is("no such question", x.table(10, -1), BAD);
        due.is("r -2", x.table(0, -2), BAD);
        due.is("r beyond", x.table(0, 10), BAD);
        due.is("BAD ahead of KIND", x.table(1, 10), BAD);
        for (int q : new int[] {1, 2, 3, 4, 5, inRoster, mapInRoster, sum}) {
            due.is("by " + q, x.table(q, -1), KIND);
            due.is("by 0 and " + q, x.table(0, q), KIND);
            due.is("by " + q + " and 0", x.table(q, 0), KIND);
        }
        due.is("no table", x.count(4), 0);
        x.code(0, 1);
        due.is("a table", x.table(0, -1), 2);
        x.table(0, 1);
        x.table(0, 99);
        due.is("it stays behind a refusal", x.count(4), 2);
        due.is("it stays behind a refusal", x.count(5), 1);
    }

    private static void tableByOne() {
        HouseholdVault x = new HouseholdVault();
        x.question(0, -1);
        x.code(0, 9);
        x.code(0, -9);
        for (int h = 0; h < 6; h++) x.household();
        x.answer(0, 0, -1, 9);
        x.answer(1, 0, -1, -9);
        x.answer(2, 0, -1, -9);
        x.weight(1, 1, 3);
        due.is("cells", x.table(0, -1), 3);
        due.is("rows", x.count(4), 3);
        due.is("columns", x.count(5), 1);
        int[] counts = {1, 2, 3};
        long[] weights = {2520, 2520 + 840, 3 * 2520};
        for (int i = 0; i < 3; i++) {
            due.is("count", x.cell(i, 0, 0), counts[i]);
            due.is("weight", x.cell(i, 0, 1), weights[i]);
        }
    }

    private static void tableByTwo() {
        int[][] counts = {{1, 0, 2, 1}, {0, 3, 0, 4}, {1, 1, 0, 5}};
        HouseholdVault x = grid(counts);
        due.is("rows", x.count(4), 3);
        due.is("columns", x.count(5), 4);
        for (int i = 0; i < 3; i++) {
            for (int j = 0; j < 4; j++) {
                due.is("count " + i + ", " + j, x.cell(i, j, 0), counts[i][j]);
                due.is("weight " + i + ", " + j, x.cell(i, j, 1), 2520L * counts[i][j]);
                due.is("share " + i + ", " + j, x.share(i, j), 0);
                due.is("not held back " + i + ", " + j, x.cell(i, j, 2), 0);
            }
        }
        due.is("turned", x.table(1, 0), 12);
        due.is("rows", x.count(4), 4);
        due.is("turned", x.cell(3, 2, 0), 5);
        due.is("turned", x.cell(2, 0, 0), 2);
        due.is("by one twice", x.table(0, 0), 9);
        due.is("by one twice", x.cell(1, 1, 0), 7);
        due.is("by one twice", x.cell(1, 0, 0), 0);
    }

    private static void tableOfMaps() {
        HouseholdVault x = new HouseholdVault();
        x.question(2, -1);
        x.map(0);
        x.row(1, 0, 9, 50);
        x.row(1, 10, 19, 40);
        x.row(1, 20, 29, 50);
        for (int h = 0; h < 5; h++) x.household();
        for (int h = 0; h < 4; h++) x.answer(h, 0, -1, 10 * h);
        due.is("cells", x.table(1, -1), 3);
        due.is("code 50", x.cell(0, 0, 0), 2);
        due.is("code 40", x.cell(1, 0, 0), 1);
        due.is("in no row, and missing", x.cell(2, 0, 0), 2);
    }

    private static void tableStays() {
        HouseholdVault x = grid(new int[][] {{1, 1}, {1, 1}});
        x.answer(0, 1, -1, 20);
        x.missing(0, 0, -1, 1);
        x.weight(1, 9, 1);
        x.household();
        x.code(0, 99);
        due.is("rows", x.count(4), 2);
        for (int i = 0; i < 2; i++) {
            for (int j = 0; j < 2; j++) {
                due.is("count as it was", x.cell(i, j, 0), 1);
                due.is("weight as it was", x.cell(i, j, 1), 2520);
            }
        }
        due.is("anew", x.table(0, 1), 6);
        due.is("anew", x.cell(2, 1, 0), 2);
    }

    private static void widestTable() {
        HouseholdVault x = new HouseholdVault();
        x.question(0, -1);
        x.question(0, -1);
        for (int c = 0; c < 8; c++) {
            x.code(0, c);
            x.code(1, 100 + c);
        }
        for (int h = 0; h < 9; h++) {
            x.household();
            if (h < 8) x.answer(h, 0, -1, h);
            if (h < 8) x.answer(h, 1, -1, 107 - h);
        }
        due.is("cells", x.table(0, 1), 81);
        for (int h = 0; h < 8; h++) due.is("count", x.cell(h, 7 - h, 0), 1);
        due.is("missing", x.cell(8, 8, 0), 1);
        due.is("shares", x.shares(900), 1);
        due.is("share", x.share(8, 8), 100);
        due.is("share", x.share(0, 7), 100);
        due.is("share", x.share(0, 0), 0);
        x.shown(2);
        due.is("none follows", x.follows(), 0);
    }

    private static void cell() {
        HouseholdVault x = grid(new int[][] {{1, 0, 0}, {0, 0, 3}});
        due.is("row -1", x.cell(-1, 0, 0), BAD);
        due.is("row 2", x.cell(2, 0, 0), BAD);
        due.is("column -1", x.cell(0, -1, 0), BAD);
        due.is("column 3", x.cell(0, 3, 0), BAD);
        due.is("what -1", x.cell(0, 0, -1), BAD);
        due.is("what 3", x.cell(0, 0, 3), BAD);
        due.is("the last one", x.cell(1, 2, 0), 3);
        due.is("share, row -1", x.share(-1, 0), BAD);
        due.is("share, row 2", x.share(2, 0), BAD);
        due.is("share, column -1", x.share(0, -1), BAD);
        due.is("share, column 3", x.share(0, 3), BAD);
        due.is("share, the last one", x.share(1, 2), 0);
    }

    private static void shares() {
        HouseholdVault x = grid(new int[][] {{1, 2, 0}, {3, 0, 1}});
        due.is("n -1", x.shares(-1), BAD);
        due.is("n 1000001", x.shares(1000001), BAD);
        due.is("7 by 7", x.shares(7), 1);
        sharesAre(x, new int[][] {{1, 2, 0}, {3, 0, 1}});
        x.shares(-1);
        sharesAre(x, new int[][] {{1, 2, 0}, {3, 0, 1}});
        due.is("10 by 7: rests 3, 6, 2, 3", x.shares(10), 1);
        sharesAre(x, new int[][] {{2, 3, 0}, {4, 0, 1}});
        due.is("1 by 7: rests 1, 2, 3, 1", x.shares(1), 1);
        sharesAre(x, new int[][] {{0, 0, 0}, {1, 0, 0}});
        due.is("5 by 7: rests 5, 3, 1, 5", x.shares(5), 1);
        sharesAre(x, new int[][] {{1, 1, 0}, {2, 0, 1}});
        due.is("0", x.shares(0), 1);
        sharesAre(x, new int[][] {{0, 0, 0}, {0, 0, 0}});
        x.shares(7);
        x.table(0, 1);
        sharesAre(x, new int[][] {{0, 0, 0}, {0, 0, 0}});
    }

    private static void sharesAre(HouseholdVault x, int[][] wanted) {
        for (int i = 0; i < wanted.length; i++) {
            for (int j = 0; j < wanted[i].length; j++) due.is("share " + i + ", " + j, x.share(i, j), wanted[i][j]);
        }
    }

    private static void sharesOfEqualRests() {
        HouseholdVault x = grid(new int[][] {{0, 1, 1}, {1, 0, 1}, {1, 1, 0}});
        x.shares(2);
        sharesAre(x, new int[][] {{0, 1, 1}, {0, 0, 0}, {0, 0, 0}});
        x.shares(5);
        sharesAre(x, new int[][] {{0, 1, 1}, {1, 0, 1}, {1, 0, 0}});
        x.shares(9);
        sharesAre(x, new int[][] {{0, 2, 2}, {2, 0, 1}, {1, 1, 0}});
        x.weight(5, 3, 2);
        x.table(0, 1);
        x.shares(1);
        sharesAre(x, new int[][] {{0, 0, 0}, {0, 0, 0}, {0, 1, 0}});
    }

    private static void sharesWithoutWeight() {
        HouseholdVault x = grid(new int[][] {{1, 0}, {0, 1}});
        x.shares(3);
        x.weight(0, 0, 1);
        x.weight(1, 0, 7);
        due.is("the table is as it was", x.shares(4), 1);
        x.table(0, 1);
        due.is("all weights are 0", x.shares(4), 0);
        sharesAre(x, new int[][] {{0, 0}, {0, 0}});
        due.is("bad all the same", x.shares(-1), BAD);
        HouseholdVault empty = grid(new int[][] {{0}});
        due.is("no households", empty.shares(4), 0);
    }

    private static void sharesOfMuch() {
        HouseholdVault x = grid(new int[][] {{13, 13}, {13, 1}});
        for (int h = 0; h < 40; h++) x.weight(h, 1000, 1);
        x.table(0, 1);
        due.is("a million", x.shares(1000000), 1);
        sharesAre(x, new int[][] {{325000, 325000}, {325000, 25000}});
        x.weight(39, 999, 7);
        x.table(0, 1);
        x.shares(1000000);
        long all = 0;
        for (int k = 0; k < 4; k++) all += x.share(k / 2, k % 2);
        due.is("no rest is left", all, 1000000);
    }

    private static void shownByOne() {
        HouseholdVault x = new HouseholdVault();
        x.question(0, -1);
        x.code(0, 1);
        x.code(0, 2);
        x.code(0, 3);
        int[] counts = {4, 1, 2};
        for (int c = 0; c < 3; c++) {
            for (int n = 0; n < counts[c]; n++) x.answer(x.household(), 0, -1, c + 1);
        }
        x.table(0, -1);
        due.is("threshold 0", x.shown(0), BAD);
        due.is("threshold 1001", x.shown(1001), BAD);
        due.is("below 1 is none", x.shown(1), 0);
        due.is("one, and the least one, that is empty", x.shown(2), 2);
        held("by one", x, ".", "x", ".", "x");
        due.is("none follows", x.follows(), 0);
        due.is("two", x.shown(3), 2);
        held("by one", x, ".", "x", "x", ".");
        due.is("all that are not empty", x.shown(1000), 3);
        held("by one", x, "x", "x", "x", ".");
        x.answer(x.household(), 0, -1, 1);
        x.household();
        x.household();
        x.household();
        x.table(0, -1);
        due.is("one, and the least of the others", x.shown(2), 2);
        held("by one", x, ".", "x", "x", ".");
    }

    private static void shownOfOneCell() {
        HouseholdVault x = new HouseholdVault();
        x.question(0, -1);
        x.question(0, -1);
        x.code(0, 1);
        x.household();
        x.table(1, -1);
        due.is("one cell, held back", x.shown(2), 1);
        due.is("it follows, and there are no others", x.follows(), 1);
        due.is("not held back", x.shown(1), 0);
        due.is("nothing follows", x.follows(), 0);
        due.is("two rows of one column", x.table(0, 1), 2);
        due.is("each row is a line", x.shown(2), 2);
        due.is("so both follow", x.follows(), 1);
        due.is("the same by one question", x.table(0, -1), 2);
        due.is("all cells are one line", x.shown(2), 2);
        due.is("so none follows", x.follows(), 0);
        due.is("one row of two columns", x.table(1, 0), 2);
        due.is("each column is a line", x.shown(2), 2);
        due.is("so both follow", x.follows(), 1);
        due.is("a new table holds nothing back", x.table(1, 0), 2);
        due.is("so nothing follows", x.follows(), 0);
    }

    private static void shownByTwo() {
        HouseholdVault x = grid(new int[][] {{1, 1, 5}, {1, 1, 5}, {5, 5, 5}});
        due.is("a ring as it is", x.shown(2), 4);
        held("ring", x, "xx.", "xx.", "...");
        x = grid(new int[][] {{1, 5, 1}, {1, 1, 5}, {5, 1, 1}});
        due.is("a ring of six", x.shown(2), 6);
        held("ring of six", x, "x.x", "xx.", ".xx");
        due.is("none follows", x.follows(), 0);
        // The first that follows is looked at anew each time: 0,0 twice, 0,2 and 2,0 behind it.
        x = grid(new int[][] {{5, 1, 5}, {1, 5, 5}, {5, 5, 5}});
        due.is("one behind another", x.shown(2), 8);
        held("one behind another", x, "xxx", "xxx", "xx.");
        due.is("none follows", x.follows(), 0);
    }

    private static void coverInTheRow() {
        HouseholdVault x = grid(new int[][] {{1, 5, 3}, {1, 5, 1}, {5, 5, 5}});
        due.is("the least one of the row", x.shown(2), 4);
        held("least", x, "x.x", "x.x", "...");
        x = grid(new int[][] {{1, 3, 3}, {1, 1, 5}, {5, 5, 5}});
        due.is("of several the first", x.shown(2), 4);
        held("first", x, "xx.", "xx.", "...");
        x = grid(new int[][] {{1, 3, 0}, {1, 5, 1}, {5, 5, 5}});
        due.is("an empty one is the least", x.shown(2), 4);
        held("empty", x, "x.x", "x.x", "...");
    }

    private static void coverInTheColumn() {
        HouseholdVault x = grid(new int[][] {{1, 1}, {3, 1}, {5, 2}});
        due.is("the least one of the column", x.shown(2), 4);
        held("least", x, "xx", "xx", "..");
        x = grid(new int[][] {{1, 1}, {3, 5}, {3, 1}});
        due.is("of several the first, then the next, then all", x.shown(2), 6);
        x = grid(new int[][] {{1, 1}, {4, 1}, {4, 5}});
        due.is("of several the first", x.shown(2), 4);
        held("first", x, "xx", "xx", "..");
    }

    private static void coverAnywhere() {
        HouseholdVault x = grid(new int[][] {{1, 1, 1}, {1, 9, 9}, {1, 9, 5}});
        due.is("held back", x.shown(2), 7);
        held("anywhere", x, "xxx", "xx.", "x.x");
        due.is("none follows", x.follows(), 0);
    }

    private static void tiesBetweenRings() {
        HouseholdVault x = grid(new int[][] {{1, 1, 4, 4}, {1, 1, 1, 4}, {4, 4, 1, 1}, {4, 4, 1, 1}});
        due.is("the tie between two rings follows", x.shown(2), 10);
        due.is("none follows", x.follows(), 0);
        held("rings", x, "xx..", "xxxx", "..xx", "..xx");
    }

    private static void shownAgain() {
        HouseholdVault x = grid(new int[][] {{1, 3, 0}, {3, 1, 0}, {0, 0, 2}});
        due.is("all that are not empty, and three more", x.shown(4), 8);
        held("more", x, "xxx", "xx.", "xxx");
        int again = x.shown(2);
        due.is("as if none were before", again, x.shown(2));
        due.is("a bad one", x.shown(-5), BAD);
        due.is("changes nothing", x.cell(0, 0, 2), 1);
        due.is("none", x.shown(1), 0);
        due.is("none is held back", x.cell(0, 0, 2), 0);
        due.is("none follows", x.follows(), 0);
    }
}
