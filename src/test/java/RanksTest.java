/** Promises 29 to 33: rank, part, mark, doubles, doubleAt. */
final class RanksTest {
    private static final int BAD = -1, KIND = -2;
    private static final Due due = new Due("RanksTest");

    public static void main(String[] args) {
        rankRefusals();
        rank();
        rankByKinds();
        rankByCodes();
        rankOfMany();
        part();
        partRefusals();
        partByCondition();
        partOfMade();
        mark();
        doubles();
        doublesOrder();
        doublesOfPersons();
        due.end();
    }

    private static void rankRefusals() {
        HouseholdVault x = new HouseholdVault();
        for (int kind = 0; kind < 6; kind++) x.question(kind, -1);
        int inRoster = x.question(2, 5);
        due.is("no households", x.rank(2, 0), BAD);
        x.household();
        x.household();
        due.is("no such question", x.rank(-1, 0), BAD);
        due.is("no such question", x.rank(7, 0), BAD);
        due.is("k -1", x.rank(2, -1), BAD);
        due.is("k 2", x.rank(2, 2), BAD);
        due.is("codes", x.rank(1, 0), KIND);
        due.is("in a roster", x.rank(inRoster, 0), KIND);
        due.is("BAD ahead of KIND", x.rank(1, 2), BAD);
        for (int q : new int[] {0, 2, 3, 4, 5}) due.is("kind " + q, x.rank(q, 1), 1);
    }

    private static void ranksAre(String what, HouseholdVault x, int q, int... wanted) {
        for (int k = 0; k < wanted.length; k++) due.is(what + ", " + k, x.rank(q, k), wanted[k]);
        due.is(what + ", behind the last", x.rank(q, wanted.length), BAD);
    }

    private static void rank() {
        HouseholdVault x = new HouseholdVault();
        x.question(2, -1);
        for (int h = 0; h < 7; h++) x.household();
        ranksAre("all are missing", x, 0, 0, 1, 2, 3, 4, 5, 6);
        x.missing(0, 0, -1, 5);
        x.answer(1, 0, -1, 3);
        x.answer(2, 0, -1, Integer.MAX_VALUE);
        x.answer(3, 0, -1, -3);
        x.answer(5, 0, -1, 3);
        x.answer(6, 0, -1, -3);
        ranksAre("rising", x, 0, 3, 6, 1, 5, 2, 0, 4);
        x.answer(4, 0, -1, Integer.MIN_VALUE);
        ranksAre("one more", x, 0, 4, 3, 6, 1, 5, 2, 0);
        x.missing(4, 0, -1, 1);
        x.missing(3, 0, -1, 2);
        ranksAre("missing ones by their numbers", x, 0, 6, 1, 5, 2, 0, 3, 4);
    }

    private static void rankByKinds() {
        HouseholdVault x = new HouseholdVault();
        x.question(0, -1);
        x.code(0, 100);
        x.code(0, -100);
        x.code(0, 0);
        x.question(3, -1);
        x.question(5, -1);
        x.question(2, 2);
        for (int h = 0; h < 4; h++) x.household();
        x.answer(0, 0, -1, 100);
        x.answer(1, 0, -1, 0);
        x.answer(2, 0, -1, -100);
        ranksAre("codes by their numbers, not by themselves", x, 0, 0, 2, 1, 3);
        x.answer(3, 1, -1, -1000000000000000L);
        x.answer(2, 1, -1, 1000000000000000L);
        x.answer(0, 1, -1, 5000000000L);
        ranksAre("cents", x, 1, 3, 0, 2, 1);
        x.answer(0, 2, -1, 2);
        x.answer(2, 2, -1, 1);
        ranksAre("a roster", x, 2, 1, 3, 2, 0);
        x.answer(0, 3, 0, 7);
        x.answer(0, 3, 1, -9);
        x.answer(2, 3, 0, -1);
        int sum = x.sum(3);
        ranksAre("a sum", x, sum, 0, 2, 1, 3);
        int map = x.map(0);
        x.row(map, -100, 0, 5);
        x.row(map, 100, 100, 4);
        ranksAre("a map by its own codes' numbers", x, map, 1, 2, 0, 3);
    }

    private static void rankByCodes() {
        HouseholdVault x = new HouseholdVault();
        x.question(0, -1);
        int[] codes = {7, 127, -128, 3, 0, -1, 126, 1};
        for (int c : codes) x.code(0, c);
        for (int h = 0; h < 10; h++) x.household();
        for (int h = 0; h < 8; h++) x.answer(h, 0, -1, codes[7 - h]);
        x.answer(9, 0, -1, 127);
        ranksAre("eight codes", x, 0, 7, 6, 9, 5, 4, 3, 2, 1, 0, 8);
        x.missing(7, 0, -1, 2);
        x.answer(8, 0, -1, 7);
        ranksAre("the first code again", x, 0, 8, 6, 9, 5, 4, 3, 2, 1, 0, 7);
        int map = x.map(0);
        ranksAre("a map without rows", x, map, 0, 1, 2, 3, 4, 5, 6, 7, 8, 9);
        x.row(map, 100, 127, 50);
        x.row(map, -128, 0, -50);
        x.row(map, 1, 3, 50);
        ranksAre("a code of two rows has the number of its first", x, map, 0, 1, 4, 6, 9, 2, 3, 5, 7, 8);
    }

    private static void rankOfMany() {
        HouseholdVault x = new HouseholdVault();
        x.question(4, -1);
        for (int h = 0; h < 40; h++) {
            x.household();
            x.answer(h, 0, -1, -h);
        }
        for (int k = 0; k < 40; k++) due.is("rank", x.rank(0, k), 39 - k);
    }

    private static void part() {
        HouseholdVault x = new HouseholdVault();
        x.question(3, -1);
        x.question(2, -1);
        int all = x.ask(3, 1, 0);
        x.household();
        due.is("no values", x.part(0, all, 1, 2), 0);
        long[] values = {50, -10, 40, 30, 20};
        for (int h = 0; h < 5; h++) {
            if (h > 0) x.household();
            x.answer(h, 0, -1, values[h]);
        }
        x.household();
        long[] rising = {-10, 20, 30, 40, 50};
        for (int n = 0; n < 5; n++) due.is("number " + n, x.part(0, all, n, 4), rising[n]);
        due.is("cut", x.part(0, all, 3, 5), 30);
        due.is("cut", x.part(0, all, 999, 1000), 40);
        due.is("cut", x.part(0, all, 249, 1000), -10);
        due.is("exact", x.part(0, all, 250, 1000), 20);
        due.is("the last", x.part(0, all, 1000, 1000), 50);
        due.is("the first", x.part(0, all, 0, 1000), -10);
        due.is("the middle", x.part(0, all, 1, 2), 30);
        x.answer(5, 0, -1, 20);
        due.is("of six", x.part(0, all, 1, 2), 20);
        due.is("of six", x.part(0, all, 3, 5), 30);
    }

    private static void partRefusals() {
        HouseholdVault x = new HouseholdVault();
        for (int kind = 0; kind < 6; kind++) x.question(kind, -1);
        int inRoster = x.question(2, 5);
        x.code(0, 3);
        x.code(1, 3);
        int all = x.ask(3, 2, 0);
        int ofPersons = x.ask(3, inRoster, 0);
        x.household();
        x.answer(0, 0, -1, 3);
        x.answer(0, 1, -1, 1);
        x.answer(0, 3, -1, 33);
        x.answer(0, 4, -1, 44);
        x.answer(0, 5, -1, 5);
        x.answer(0, inRoster, 0, 66);
        due.is("cents", x.part(3, all, 1, 2), 33);
        due.is("a day", x.part(4, all, 1, 2), 44);
        due.is("a code", x.part(0, all, 1, 2), 0);
        due.is("codes", x.part(1, all, 1, 2), 0);
        due.is("a roster", x.part(5, all, 1, 2), 0);
        due.is("in a roster", x.part(inRoster, all, 1, 2), 0);
        due.is("no such question", x.part(-1, all, 1, 2), 0);
        due.is("no such question", x.part(7, all, 1, 2), 0);
        due.is("no such condition", x.part(3, -1, 1, 2), 0);
        due.is("no such condition", x.part(3, 2, 1, 2), 0);
        due.is("a roster's condition", x.part(3, ofPersons, 1, 2), 0);
        due.is("up -1", x.part(3, all, -1, 2), 0);
        due.is("up above low", x.part(3, all, 3, 2), 0);
        due.is("low 0", x.part(3, all, 0, 0), 0);
        due.is("low -1", x.part(3, all, -1, -1), 0);
        due.is("low 1001", x.part(3, all, 1, 1001), 0);
        due.is("low 1000", x.part(3, all, 1000, 1000), 33);
        due.is("low 1", x.part(3, all, 1, 1), 33);
    }

    private static void partByCondition() {
        HouseholdVault x = new HouseholdVault();
        x.question(2, -1);
        x.question(2, -1);
        int so = x.ask(2, 1, 0);
        for (int h = 0; h < 6; h++) {
            x.household();
            x.answer(h, 0, -1, 10 * h);
            x.answer(h, 1, -1, h % 2);
        }
        due.is("the least", x.part(0, so, 0, 1), 10);
        due.is("the middle", x.part(0, so, 1, 2), 30);
        due.is("the greatest", x.part(0, so, 1, 1), 50);
        x.missing(3, 0, -1, 1);
        due.is("one is missing", x.part(0, so, 1, 2), 10);
        x.answer(4, 1, -1, 8);
        due.is("one more is so", x.part(0, so, 1, 2), 40);
        for (int h = 0; h < 6; h++) x.answer(h, 1, -1, 0);
        due.is("of none it is so", x.part(0, so, 1, 2), 0);
    }

    private static void partOfMade() {
        HouseholdVault x = new HouseholdVault();
        x.question(5, -1);
        x.question(3, 0);
        int sum = x.sum(1);
        int lacks = x.ask(3, 1, 0);
        int many = x.howMany(0, lacks);
        int map = x.map(sum);
        int all = x.ask(2, 0, -1);
        for (int h = 0; h < 3; h++) {
            x.household();
            x.answer(h, 0, -1, h + 2);
            x.answer(h, 1, 0, -h);
            x.answer(h, 1, 1, -h);
        }
        due.is("a sum", x.part(sum, all, 0, 1), -4);
        due.is("how many", x.part(many, all, 1, 1), 2);
        due.is("a map is a code", x.part(map, all, 1, 1), 0);
    }

    private static void mark() {
        HouseholdVault x = new HouseholdVault();
        for (int kind = 0; kind < 6; kind++) x.question(kind, -1);
        int inRoster = x.question(2, 5);
        int map = x.map(2);
        int sum = x.sum(inRoster);
        due.is("no such question", x.mark(-1, true), BAD);
        due.is("no such question", x.mark(9, true), BAD);
        due.is("in a roster", x.mark(inRoster, true), KIND);
        due.is("a map", x.mark(map, true), KIND);
        due.is("a sum", x.mark(sum, false), KIND);
        for (int q = 0; q < 6; q++) {
            due.is("it was not", x.mark(q, true), 0);
            due.is("it was", x.mark(q, true), 1);
            due.is("it is", x.of(q, 5), 1);
            due.is("it was", x.mark(q, false), 1);
            due.is("it was not", x.mark(q, false), 0);
            due.is("it is not", x.of(q, 5), 0);
        }
    }

    private static void doubles() {
        HouseholdVault x = new HouseholdVault();
        x.question(2, -1);
        x.question(4, -1);
        x.household();
        x.household();
        due.is("none is marked", x.doubles(), 0);
        due.is("none is marked", x.doubleAt(0, 0), BAD);
        x.mark(0, true);
        due.is("both are missing by 1", x.doubles(), 1);
        due.is("the first", x.doubleAt(0, 0), 0);
        due.is("the second", x.doubleAt(0, 1), 1);
        due.is("what -1", x.doubleAt(0, -1), BAD);
        due.is("what 2", x.doubleAt(0, 2), BAD);
        due.is("k -1", x.doubleAt(-1, 0), BAD);
        due.is("k 1", x.doubleAt(1, 0), BAD);
        x.missing(1, 0, -1, 2);
        due.is("other reasons", x.doubles(), 0);
        x.answer(1, 0, -1, 0);
        due.is("0 is not missing", x.doubles(), 0);
        x.answer(0, 0, -1, 0);
        due.is("like values", x.doubles(), 1);
        x.answer(0, 1, -1, 5);
        due.is("what is not marked is not looked at", x.doubles(), 1);
        x.mark(1, true);
        due.is("unlike in one of two", x.doubles(), 0);
        x.mark(0, false);
        x.answer(1, 1, -1, 5);
        x.answer(1, 0, -1, 9);
        due.is("like in the one that is marked", x.doubles(), 1);
        x.mark(1, false);
        due.is("none is marked any more", x.doubles(), 0);
    }

    private static void doublesOrder() {
        HouseholdVault x = new HouseholdVault();
        x.question(2, -1);
        x.mark(0, true);
        int[] values = {1, 2, 1, 2, 1};
        for (int h = 0; h < 5; h++) {
            x.household();
            x.answer(h, 0, -1, values[h]);
        }
        int[][] wanted = {{0, 2}, {0, 4}, {1, 3}, {2, 4}};
        due.is("how many", x.doubles(), 4);
        for (int k = 0; k < 4; k++) {
            due.is("first " + k, x.doubleAt(k, 0), wanted[k][0]);
            due.is("second " + k, x.doubleAt(k, 1), wanted[k][1]);
        }
        due.is("behind the last", x.doubleAt(4, 0), BAD);
        for (int h = 5; h < 40; h++) x.answer(x.household(), 0, -1, 1);
        for (int h = 0; h < 5; h++) x.answer(h, 0, -1, 1);
        due.is("all pairs of 40", x.doubles(), 780);
        due.is("the last pair", x.doubleAt(779, 0), 38);
        due.is("the last pair", x.doubleAt(779, 1), 39);
    }

    private static void doublesOfPersons() {
        HouseholdVault x = new HouseholdVault();
        int roster = x.question(5, -1);
        int other = x.question(5, -1);
        int a = x.question(2, roster);
        int inOther = x.question(2, other);
        int map = x.map(a);
        int b = x.question(1, roster);
        x.code(b, 4);
        x.household();
        x.household();
        x.mark(roster, true);
        due.is("nobody in both", x.doubles(), 1);
        x.answer(0, roster, -1, 2);
        due.is("not as many", x.doubles(), 0);
        x.answer(1, roster, -1, 2);
        due.is("as many, all missing", x.doubles(), 1);
        x.answer(0, a, 1, 3);
        due.is("one is answered", x.doubles(), 0);
        x.answer(1, a, 1, 3);
        due.is("like ones", x.doubles(), 1);
        x.answer(1, b, 0, 0);
        due.is("a set of none is not missing", x.doubles(), 0);
        x.answer(0, b, 0, 0);
        due.is("like ones", x.doubles(), 1);
        x.missing(0, a, 0, 4);
        due.is("other reasons", x.doubles(), 0);
        x.missing(1, a, 0, 4);
        due.is("like reasons", x.doubles(), 1);
        x.row(map, 0, 5, 1);
        due.is("made ones are not looked at", x.doubles(), 1);
        x.value(0, map, 1);
        due.is("made ones are not looked at, even when one was asked for", x.doubles(), 1);
        x.answer(0, other, -1, 3);
        x.answer(0, inOther, 0, 3);
        due.is("another roster is not looked at", x.doubles(), 1);
        x.mark(other, true);
        due.is("now it is", x.doubles(), 0);
        HouseholdVault y = new HouseholdVault();
        y.question(5, -1);
        y.question(2, 0);
        for (int h = 0; h < 2; h++) {
            y.household();
            y.answer(h, 0, -1, 1);
            y.answer(h, 1, 0, h);
        }
        y.mark(0, true);
        due.is("the question right behind its roster", y.doubles(), 0);
        y.answer(0, 1, 0, 1);
        due.is("the question right behind its roster", y.doubles(), 1);
    }
}
