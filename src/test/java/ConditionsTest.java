/** Promises 15 to 21: ask, logic, some, holds, filter, against, againstAt. */
final class ConditionsTest {
    private static final int BAD = -1, KIND = -2, FULL = -4;
    private static final Due due = new Due("ConditionsTest");

    public static void main(String[] args) {
        ask();
        askHolds();
        askOfCodes();
        logic();
        logicOfRosters();
        sizes();
        conditionsFull();
        some();
        holds();
        longChains();
        filter();
        against();
        againstOrder();
        againstOfPersons();
        due.end();
    }

    private static HouseholdVault allKinds() {
        HouseholdVault x = new HouseholdVault();
        for (int kind = 0; kind < 6; kind++) x.question(kind, -1);
        for (int kind = 0; kind < 5; kind++) x.question(kind, 5);
        return x;
    }

    private static void ask() {
        HouseholdVault x = allKinds();
        due.is("code -1", x.ask(-1, 2, 0), BAD);
        due.is("code 4", x.ask(4, 2, 0), BAD);
        due.is("no such question", x.ask(0, -1, 0), BAD);
        due.is("no such question", x.ask(0, 11, 0), BAD);
        due.is("code number -1", x.ask(0, 1, -1), BAD);
        due.is("code number 8", x.ask(0, 1, 8), BAD);
        due.is("code number 8 in a roster", x.ask(0, 7, 8), BAD);
        for (int code = 1; code < 3; code++) {
            for (int q : new int[] {0, 1, 6, 7}) due.is("below, above of codes", x.ask(code, q, 0), KIND);
        }
        due.is("refusals count none", x.count(2), 0);
        int made = 0;
        due.is("code number 0", x.ask(0, 1, 0), made++);
        due.is("code number 7", x.ask(0, 1, 7), made++);
        due.is("missing codes, v is not looked at", x.ask(3, 1, 8), made++);
        due.is("any v of a code", x.ask(0, 0, Long.MAX_VALUE), made++);
        for (int q = 2; q < 6; q++) {
            for (int code = 0; code < 4; code++) due.is("ask", x.ask(code, q, Long.MIN_VALUE), made++);
        }
        due.is("how many", x.count(2), made);
    }

    private static void askHolds() {
        HouseholdVault x = allKinds();
        x.household();
        x.code(0, 5);
        int isFive = x.ask(0, 0, 5);
        int isFour = x.ask(0, 0, 4);
        int codeLacks = x.ask(3, 0, 99);
        due.is("missing is no value", x.holds(isFive, 0, -1), 0);
        due.is("missing", x.holds(codeLacks, 0, -1), 1);
        x.answer(0, 0, -1, 5);
        due.is("is 5", x.holds(isFive, 0, -1), 1);
        due.is("is not 4", x.holds(isFour, 0, -1), 0);
        due.is("missing no more", x.holds(codeLacks, 0, -1), 0);
        for (int q = 2; q < 6; q++) {
            int is = x.ask(0, q, 3);
            int below = x.ask(1, q, 3);
            int above = x.ask(2, q, 3);
            int isNothing = x.ask(0, q, 0);
            int lacks = x.ask(3, q, 3);
            due.is("at first is 0", x.holds(isNothing, 0, -1), q == 5 ? 1 : 0);
            due.is("at first below", x.holds(below, 0, -1), q == 5 ? 1 : 0);
            due.is("at first above", x.holds(above, 0, -1), 0);
            due.is("at first missing", x.holds(lacks, 0, -1), q == 5 ? 0 : 1);
            for (int v = 2; v < 5; v++) {
                x.answer(0, q, -1, v);
                due.is(q + " is 3: " + v, x.holds(is, 0, -1), v == 3 ? 1 : 0);
                due.is(q + " below 3: " + v, x.holds(below, 0, -1), v < 3 ? 1 : 0);
                due.is(q + " above 3: " + v, x.holds(above, 0, -1), v > 3 ? 1 : 0);
                due.is(q + " missing: " + v, x.holds(lacks, 0, -1), 0);
            }
        }
        int farAbove = x.ask(2, 2, Long.MIN_VALUE);
        int farBelow = x.ask(1, 2, Long.MAX_VALUE);
        due.is("above the least long", x.holds(farAbove, 0, -1), 1);
        due.is("below the greatest long", x.holds(farBelow, 0, -1), 1);
    }

    private static void askOfCodes() {
        HouseholdVault x = allKinds();
        x.household();
        for (int c = 0; c < 8; c++) x.code(1, 20 + c);
        int[] has = new int[8];
        for (int n = 0; n < 8; n++) has[n] = x.ask(0, 1, n);
        int lacks = x.ask(3, 1, 0);
        for (int n = 0; n < 8; n++) due.is("missing has none", x.holds(has[n], 0, -1), 0);
        due.is("missing", x.holds(lacks, 0, -1), 1);
        int set = 0b10100110;
        x.answer(0, 1, -1, set);
        for (int n = 0; n < 8; n++) due.is("has code " + n, x.holds(has[n], 0, -1), set >> n & 1);
        x.answer(0, 1, -1, 0);
        due.is("none in it", x.holds(has[1], 0, -1), 0);
        due.is("none in it is not missing", x.holds(lacks, 0, -1), 0);
    }

    private static void logic() {
        HouseholdVault x = allKinds();
        x.household();
        int one = x.ask(0, 2, 1);
        int two = x.ask(0, 4, 2);
        due.is("way -1", x.logic(-1, one, two), BAD);
        due.is("way 3", x.logic(3, one, two), BAD);
        due.is("no such a", x.logic(0, -1, two), BAD);
        due.is("no such a", x.logic(1, 2, two), BAD);
        due.is("no such a of not", x.logic(2, 2, two), BAD);
        due.is("no such b", x.logic(0, one, -1), BAD);
        due.is("no such b", x.logic(1, one, 2), BAD);
        int both = x.logic(0, one, two);
        int either = x.logic(1, one, two);
        int not = x.logic(2, one, 99);
        due.is("b of not is not looked at", not, 4);
        int[][] wanted = {{0, 0, 1}, {0, 1, 0}, {0, 1, 1}, {1, 1, 0}};
        for (int n = 0; n < 4; n++) {
            x.answer(0, 2, -1, n & 1);
            x.answer(0, 4, -1, n & 2);
            due.is("both " + n, x.holds(both, 0, -1), wanted[n][0]);
            due.is("either " + n, x.holds(either, 0, -1), wanted[n][1]);
            due.is("not " + n, x.holds(not, 0, -1), wanted[n][2]);
        }
        due.is("of itself", x.holds(x.logic(0, one, one), 0, -1), 1);
    }

    private static void logicOfRosters() {
        HouseholdVault x = new HouseholdVault();
        int first = x.question(5, -1);
        int second = x.question(5, -1);
        int mine = x.question(2, first);
        int other = x.question(2, second);
        int top = x.question(2, -1);
        x.household();
        x.answer(0, first, -1, 3);
        x.answer(0, second, -1, 2);
        int mineIs = x.ask(0, mine, 1);
        int otherIs = x.ask(0, other, 1);
        int topIs = x.ask(0, top, 1);
        due.is("two rosters", x.logic(0, mineIs, otherIs), KIND);
        due.is("two rosters", x.logic(1, otherIs, mineIs), KIND);
        int rosterTop = x.logic(0, mineIs, topIs);
        int topRoster = x.logic(1, topIs, mineIs);
        int notMine = x.logic(2, mineIs, 0);
        due.is("it reaches the roster", x.holds(rosterTop, 0, -1), BAD);
        due.is("it reaches the roster", x.holds(topRoster, 0, -1), BAD);
        due.is("two rosters", x.logic(1, topRoster, otherIs), KIND);
        x.answer(0, mine, 1, 1);
        due.is("both, the top is not so", x.holds(rosterTop, 0, 1), 0);
        due.is("either, the person", x.holds(topRoster, 0, 1), 1);
        due.is("either, another person", x.holds(topRoster, 0, 2), 0);
        x.answer(0, top, -1, 1);
        due.is("both, the top is so", x.holds(rosterTop, 0, 1), 1);
        due.is("both, the person is not", x.holds(rosterTop, 0, 2), 0);
        due.is("either, the top is so", x.holds(topRoster, 0, 2), 1);
        due.is("not", x.holds(notMine, 0, 1), 0);
        due.is("not, of one who is missing", x.holds(notMine, 0, 2), 1);
        due.is("how many are not", x.value(0, x.howMany(first, notMine), -1), 2);
        due.is("how many of either", x.value(0, x.howMany(first, topRoster), -1), 3);
        int notTop = x.logic(2, topIs, 0);
        int notTopOrMine = x.logic(1, notTop, mineIs);
        due.is("not of the top, and a person who is", x.holds(notTopOrMine, 0, 1), 1);
        due.is("not of the top, and a person who is not", x.holds(notTopOrMine, 0, 2), 0);
        x.answer(0, top, -1, 2);
        due.is("now not of the top", x.holds(notTopOrMine, 0, 2), 1);
    }

    private static void sizes() {
        HouseholdVault x = allKinds();
        int one = x.ask(3, 2, 0);
        int three = x.logic(0, one, one);
        int seven = x.logic(1, three, three);
        int fifteen = x.logic(0, seven, seven);
        due.is("31", x.logic(0, fifteen, fifteen), FULL);
        int fourteen = x.logic(0, seven, x.logic(0, x.logic(2, three, 0), one));
        due.is("30: 15 + 14 + 1", x.logic(1, fifteen, fourteen), 7);
        due.is("not of 30", x.logic(2, 7, 0), FULL);
        due.is("30 and one", x.logic(1, 7, one), FULL);
        int person = x.ask(3, 8, 0);
        int wide = x.logic(0, fifteen, x.logic(1, seven, x.logic(2, x.logic(0, three, person), 0)));
        due.is("30, of a roster", wide, 12);
        due.is("some of 30", x.some(wide, 1), FULL);
        due.is("some of 30, KIND ahead", x.some(7, 1), KIND);
        int less = x.logic(0, fifteen, x.logic(1, seven, x.logic(0, three, person)));
        due.is("some of 29", x.some(less, 1), less + 1);
        due.is("not of some of 30", x.logic(2, less + 1, 0), FULL);
        due.is("refusals count none", x.count(2), less + 2);
    }

    private static void conditionsFull() {
        HouseholdVault x = allKinds();
        due.is("first", x.ask(3, 8, 0), 0);
        for (int c = 1; c < 60; c++) due.is("condition", x.ask(0, 2, c), c);
        due.is("ask, full", x.ask(0, 2, 0), FULL);
        due.is("ask, BAD ahead", x.ask(4, 2, 0), BAD);
        due.is("ask, KIND ahead", x.ask(1, 0, 0), KIND);
        due.is("logic, full", x.logic(0, 1, 2), FULL);
        due.is("not, full", x.logic(2, 1, 2), FULL);
        due.is("logic, BAD ahead", x.logic(0, 1, 60), BAD);
        due.is("some, full", x.some(0, 1), FULL);
        due.is("some, KIND ahead", x.some(1, 1), KIND);
        due.is("some, BAD ahead", x.some(0, 6), BAD);
        due.is("still 60", x.count(2), 60);
        x.household();
        x.answer(0, 2, -1, 59);
        due.is("the last one", x.holds(59, 0, -1), 1);
        due.is("the one ahead of it", x.holds(58, 0, -1), 0);
    }

    private static void some() {
        HouseholdVault x = new HouseholdVault();
        int roster = x.question(5, -1);
        int mine = x.question(4, roster);
        x.household();
        int above = x.ask(2, mine, 0);
        due.is("no such condition", x.some(-1, 1), BAD);
        due.is("no such condition", x.some(1, 1), BAD);
        due.is("n -1", x.some(above, -1), BAD);
        due.is("n 6", x.some(above, 6), BAD);
        int[] some = new int[6];
        for (int n = 0; n < 6; n++) some[n] = x.some(above, n);
        due.is("of one at the top", x.some(some[0], 1), KIND);
        due.is("BAD ahead of KIND", x.some(some[0], 6), BAD);
        due.is("0 of nobody", x.holds(some[0], 0, -1), 1);
        due.is("1 of nobody", x.holds(some[1], 0, -1), 0);
        x.answer(0, roster, -1, 5);
        for (int person = 0; person < 5; person++) {
            x.answer(0, mine, person, 1);
            for (int n = 0; n < 6; n++) {
                due.is(n + " of " + (person + 1), x.holds(some[n], 0, -1), person + 1 >= n ? 1 : 0);
            }
        }
        due.is("it reaches the top", x.holds(some[1], 0, 0), BAD);
    }

    private static void holds() {
        HouseholdVault x = allKinds();
        x.household();
        x.household();
        x.answer(1, 5, -1, 2);
        int top = x.ask(3, 2, 0);
        int inRoster = x.ask(3, 8, 0);
        due.is("no such condition", x.holds(-1, 0, -1), BAD);
        due.is("no such condition", x.holds(2, 0, -1), BAD);
        due.is("no such household", x.holds(top, -1, -1), BAD);
        due.is("no such household", x.holds(top, 2, -1), BAD);
        due.is("a person at the top", x.holds(top, 0, 0), BAD);
        due.is("person -2", x.holds(top, 0, -2), BAD);
        due.is("nobody there", x.holds(inRoster, 0, 0), BAD);
        due.is("person -1 in a roster", x.holds(inRoster, 1, -1), BAD);
        due.is("person 2 of 2", x.holds(inRoster, 1, 2), BAD);
        due.is("person 1 of 2", x.holds(inRoster, 1, 1), 1);
        x.answer(1, 8, 1, 4);
        due.is("person 1", x.holds(inRoster, 1, 1), 0);
        due.is("person 0", x.holds(inRoster, 1, 0), 1);
        due.is("household 0", x.holds(top, 0, -1), 1);
    }

    /** Conditions on made questions that are made of conditions: asked one in another, these would never end. */
    private static void longChains() {
        HouseholdVault x = new HouseholdVault();
        int roster = x.question(5, -1);
        int mine = x.question(2, roster);
        x.household();
        x.answer(0, roster, -1, 5);
        int leaf = x.ask(3, mine, 0);
        int asked = -1;
        for (int level = 0; level < 11; level++) {
            int three = x.logic(0, leaf, leaf);
            int made = x.howMany(roster, x.logic(0, x.logic(1, three, three), leaf));
            asked = x.ask(0, made, 5);
            leaf = x.logic(0, asked, 0);
        }
        due.is("conditions", x.count(2), 56);
        due.is("questions", x.count(0), 13);
        due.is("so at the end", x.holds(asked, 0, -1), 1);
        x.answer(0, mine, 4, 7);
        due.is("not so at the end", x.holds(asked, 0, -1), 0);
        x.answer(0, roster, -1, 4);
        due.is("four are not five", x.holds(asked, 0, -1), 0);
        x.answer(0, roster, -1, 5);
        due.is("five again", x.holds(asked, 0, -1), 1);
    }

    private static void filter() {
        HouseholdVault x = new HouseholdVault();
        int a = x.question(2, -1);
        int roster = x.question(5, -1);
        int other = x.question(5, -1);
        int b = x.question(2, roster);
        int c = x.question(2, roster);
        int d = x.question(2, other);
        int e = x.question(2, -1);
        int askA = x.ask(3, a, 0);
        int askB = x.ask(3, b, 0);
        int askE = x.ask(3, e, 0);
        int map = x.map(a);
        int askMap = x.ask(3, map, 0);
        int later = x.question(2, roster);
        due.is("no such question", x.filter(-1, askA), BAD);
        due.is("no such question", x.filter(later + 1, askA), BAD);
        due.is("condition -2", x.filter(e, -2), BAD);
        due.is("no such condition", x.filter(e, 4), BAD);
        due.is("made", x.filter(map, askA), KIND);
        due.is("made, none", x.filter(map, -1), KIND);
        due.is("made, BAD ahead", x.filter(map, 4), BAD);
        due.is("itself", x.filter(a, askA), KIND);
        due.is("itself in the roster", x.filter(b, askB), KIND);
        due.is("a younger one", x.filter(c, askE), KIND);
        due.is("a younger one that is made", x.filter(e, askMap), KIND);
        due.is("a roster's at the top", x.filter(e, askB), KIND);
        due.is("a roster's of the roster", x.filter(roster, askB), KIND);
        due.is("another roster's", x.filter(d, askB), KIND);
        int both = x.logic(0, askA, x.logic(2, askE, 0));
        due.is("a younger one inside", x.filter(d, both), KIND);
        due.is("a younger one inside, the other way", x.filter(d, x.logic(1, x.logic(2, askE, 0), askA)), KIND);
        int ofLater = x.logic(1, askB, x.ask(3, later, 0));
        due.is("itself inside", x.filter(later, ofLater), KIND);
        due.is("no refusal made a filter", x.of(d, 4) + x.of(e, 4) + x.of(later, 4), -3);
        due.is("elder ones", x.filter(later, both), 1);
        due.is("told", x.of(later, 4), both);
        due.is("of the roster", x.filter(c, askB), 1);
        due.is("of the top in a roster", x.filter(b, askA), 1);
        due.is("of the top for a roster", x.filter(roster, askA), 1);
        due.is("some at the top", x.filter(e, x.some(askB, 1)), 1);
        due.is("some at the top, not elder", x.filter(b, x.some(askB, 1)), KIND);
        due.is("a made one that is elder", x.filter(later, askMap), 1);
        due.is("none", x.filter(later, -1), 1);
        due.is("none", x.of(later, 4), -1);
    }

    private static void against() {
        HouseholdVault x = new HouseholdVault();
        int a = x.question(2, -1);
        int b = x.question(2, -1);
        int roster = x.question(5, -1);
        int map = x.map(b);
        x.row(map, -9, 9, 1);
        x.household();
        int isOne = x.ask(0, a, 1);
        x.filter(b, isOne);
        x.filter(roster, isOne);
        due.is("nothing is answered", x.against(), 0);
        x.answer(0, b, -1, 0);
        due.is("0 is an answer", x.against(), 1);
        due.is("the household", x.againstAt(0, 0), 0);
        due.is("the question", x.againstAt(0, 1), b);
        due.is("the person", x.againstAt(0, 2), -1);
        due.is("what -1", x.againstAt(0, -1), -2);
        due.is("what 3", x.againstAt(0, 3), -2);
        due.is("k -1", x.againstAt(-1, 0), -2);
        due.is("k 1", x.againstAt(1, 0), -2);
        x.answer(0, roster, -1, 1);
        due.is("somebody is there", x.against(), 2);
        due.is("the roster", x.againstAt(1, 1), roster);
        x.answer(0, roster, -1, 0);
        due.is("nobody is there", x.against(), 1);
        x.answer(0, a, -1, 1);
        due.is("the filter is so", x.against(), 0);
        due.is("k 0 of none", x.againstAt(0, 0), -2);
        x.answer(0, a, -1, 2);
        x.missing(0, b, -1, 2);
        due.is("missing is not against", x.against(), 0);
        x.answer(0, b, -1, 4);
        x.filter(b, -1);
        due.is("no filter", x.against(), 0);
    }

    private static void againstOrder() {
        HouseholdVault x = new HouseholdVault();
        int a = x.question(2, -1);
        int roster = x.question(5, -1);
        int c = x.question(2, roster);
        int d = x.question(2, -1);
        int never = x.ask(1, a, -5);
        x.filter(c, never);
        x.filter(d, never);
        for (int h = 0; h < 3; h++) {
            x.household();
            x.answer(h, roster, -1, h + 1);
            for (int person = 0; person <= h; person++) x.answer(h, c, person, 0);
            if (h != 1) x.answer(h, d, -1, 0);
        }
        int[][] wanted = {{0, c, 0}, {0, d, -1}, {1, c, 0}, {1, c, 1}, {2, c, 0}, {2, c, 1}, {2, c, 2}, {2, d, -1}};
        due.is("how many", x.against(), wanted.length);
        for (int k = 0; k < wanted.length; k++) {
            for (int what = 0; what < 3; what++) due.is("at " + k, x.againstAt(k, what), wanted[k][what]);
        }
        due.is("behind the last", x.againstAt(wanted.length, 0), -2);
    }

    private static void againstOfPersons() {
        HouseholdVault x = new HouseholdVault();
        int roster = x.question(5, -1);
        int a = x.question(2, roster);
        int b = x.question(2, roster);
        x.household();
        x.answer(0, roster, -1, 4);
        x.filter(b, x.ask(2, a, 0));
        for (int person = 0; person < 4; person++) x.answer(0, b, person, 1);
        x.answer(0, a, 0, 1);
        x.answer(0, a, 2, 1);
        x.answer(0, a, 3, 0);
        due.is("of two persons", x.against(), 2);
        due.is("person 1", x.againstAt(0, 2), 1);
        due.is("person 3", x.againstAt(1, 2), 3);
        x.answer(0, roster, -1, 2);
        due.is("who went is not against", x.against(), 1);
    }
}
