/** Promises 34 to 40: freeze, frozen, frozenReason, changes, changeAt, merge, count. */
final class EditionsTest {
    private static final int BAD = -1, FULL = -4;
    private static final Due due = new Due("EditionsTest");

    public static void main(String[] args) {
        freeze();
        frozen();
        frozenPersons();
        frozenOfMade();
        changes();
        changesOfPersons();
        changesInBothAlone();
        changesOfMade();
        changeAtRefusals();
        merge();
        mergeOfPersons();
        mergeOfElderEditions();
        mergeAndMade();
        count();
        due.end();
    }

    private static void freeze() {
        HouseholdVault x = new HouseholdVault();
        for (int e = 0; e < 6; e++) due.is("edition", x.freeze(), e);
        due.is("a seventh", x.freeze(), FULL);
        due.is("still six", x.count(3), 6);
        due.is("of nothing", x.changes(0, 5), 0);
        due.is("of nothing", x.merge(5), 0);
        due.is("no edition 6", x.merge(6), BAD);
        due.is("no edition 6", x.changes(0, 6), BAD);
        due.is("no edition 6", x.frozenReason(6, 0, 0, -1), BAD);
    }

    private static void frozen() {
        HouseholdVault x = new HouseholdVault();
        x.question(2, -1);
        x.question(3, -1);
        x.question(5, -1);
        x.household();
        x.household();
        x.answer(0, 0, -1, -1);
        x.answer(1, 1, -1, 1000000000000000L);
        x.missing(0, 1, -1, 4);
        int e = x.freeze();
        x.answer(0, 0, -1, 7);
        x.missing(1, 1, -1, 2);
        x.answer(0, 2, -1, 5);
        due.is("as it was", x.frozen(e, 0, 0, -1), -1);
        due.is("as it was", x.frozenReason(e, 0, 0, -1), 0);
        due.is("as it was", x.frozen(e, 1, 1, -1), 1000000000000000L);
        due.is("missing", x.frozen(e, 0, 1, -1), 0);
        due.is("missing", x.frozenReason(e, 0, 1, -1), 4);
        due.is("missing by 1", x.frozenReason(e, 1, 0, -1), 1);
        due.is("a roster", x.frozen(e, 0, 2, -1), 0);
        due.is("a roster", x.frozenReason(e, 0, 2, -1), 0);
        x.question(2, -1);
        x.household();
        int[][] bad = {{-1, 0, 0, -1}, {1, 0, 0, -1}, {e, -1, 0, -1}, {e, 2, 0, -1}, {e, 3, 0, -1}, {e, 0, -1, -1},
            {e, 0, 3, -1}, {e, 0, 4, -1}, {e, 0, 0, 0}, {e, 0, 0, -2}};
        for (int[] b : bad) {
            String at = " at " + b[0] + ", " + b[1] + ", " + b[2] + ", " + b[3];
            due.is("frozen" + at, x.frozen(b[0], b[1], b[2], b[3]), 0);
            due.is("frozenReason" + at, x.frozenReason(b[0], b[1], b[2], b[3]), BAD);
        }
        int later = x.freeze();
        due.is("the later one", x.frozen(later, 0, 0, -1), 7);
        due.is("the later one has more", x.frozenReason(later, 2, 3, -1), 1);
    }

    private static void frozenPersons() {
        HouseholdVault x = new HouseholdVault();
        x.question(5, -1);
        x.question(4, 0);
        x.household();
        x.answer(0, 0, -1, 3);
        x.answer(0, 1, 2, 9);
        x.missing(0, 1, 1, 3);
        x.freeze();
        x.answer(0, 0, -1, 1);
        due.is("a person that went", x.frozen(0, 0, 1, 2), 9);
        due.is("a person that went", x.frozenReason(0, 0, 1, 2), 0);
        due.is("a person that went", x.frozenReason(0, 0, 1, 1), 3);
        due.is("how many there were", x.frozen(0, 0, 0, -1), 3);
        due.is("person 3 of 3", x.frozenReason(0, 0, 1, 3), BAD);
        due.is("person -1", x.frozenReason(0, 0, 1, -1), BAD);
        x.freeze();
        x.answer(0, 0, -1, 5);
        due.is("person 1 of 1", x.frozenReason(1, 0, 1, 1), BAD);
        due.is("person 1 of 1", x.frozen(1, 0, 1, 1), 0);
        due.is("person 0 of 1", x.frozenReason(1, 0, 1, 0), 1);
    }

    private static void frozenOfMade() {
        HouseholdVault x = new HouseholdVault();
        x.question(2, -1);
        x.map(0);
        x.row(1, 0, 9, 3);
        x.household();
        x.answer(0, 0, -1, 5);
        due.is("now", x.value(0, 1, -1), 3);
        x.freeze();
        due.is("made", x.frozen(0, 0, 1, -1), 0);
        due.is("made", x.frozenReason(0, 0, 1, -1), BAD);
        due.is("not made", x.frozen(0, 0, 0, -1), 5);
    }

    private static void changes() {
        HouseholdVault x = new HouseholdVault();
        x.question(2, -1);
        x.question(4, -1);
        x.household();
        x.household();
        x.answer(0, 0, -1, 0);
        x.freeze();
        due.is("of one to itself", x.changes(0, 0), 0);
        due.is("no such e", x.changes(-1, 0), BAD);
        due.is("no such e", x.changes(1, 0), BAD);
        due.is("no such f", x.changes(0, -1), BAD);
        due.is("no such f", x.changes(0, 1), BAD);
        x.freeze();
        due.is("nothing has changed", x.changes(0, 1), 0);
        x.missing(0, 0, -1, 1);
        x.missing(1, 1, -1, 2);
        x.answer(1, 0, -1, 8);
        x.freeze();
        int[][] wanted = {{0, 0, -1}, {1, 0, -1}, {1, 1, -1}};
        due.is("changes", x.changes(0, 2), 3);
        due.is("changes back", x.changes(2, 1), 3);
        for (int k = 0; k < 3; k++) {
            for (int what = 0; what < 3; what++) {
                due.is("at " + k, x.changeAt(0, 2, k, what), wanted[k][what]);
                due.is("back at " + k, x.changeAt(2, 0, k, what), wanted[k][what]);
            }
        }
        x.answer(1, 0, -1, 9);
        x.freeze();
        due.is("another value", x.changes(2, 3), 1);
        x.answer(1, 0, -1, 8);
        x.freeze();
        due.is("as it was", x.changes(2, 4), 0);
    }

    private static void changesOfPersons() {
        HouseholdVault x = new HouseholdVault();
        x.question(5, -1);
        x.question(2, 0);
        x.question(2, 0);
        x.household();
        x.answer(0, 0, -1, 3);
        x.answer(0, 2, 0, 6);
        x.freeze();
        x.answer(0, 0, -1, 1);
        x.answer(0, 2, 0, 7);
        x.freeze();
        int[][] wanted = {{0, 0, -1}, {0, 1, 1}, {0, 1, 2}, {0, 2, 0}, {0, 2, 1}, {0, 2, 2}};
        for (int turn = 0; turn < 2; turn++) {
            due.is("changes", x.changes(turn, 1 - turn), wanted.length);
            for (int k = 0; k < wanted.length; k++) {
                for (int what = 0; what < 3; what++) {
                    due.is("at " + k, x.changeAt(turn, 1 - turn, k, what), wanted[k][what]);
                }
            }
        }
        x.answer(0, 0, -1, 3);
        x.answer(0, 2, 0, 6);
        x.freeze();
        due.is("they came back", x.changes(0, 2), 0);
    }

    private static void changesInBothAlone() {
        HouseholdVault x = new HouseholdVault();
        x.question(2, -1);
        x.household();
        x.freeze();
        x.question(2, -1);
        x.household();
        x.answer(0, 1, -1, 5);
        x.answer(1, 0, -1, 5);
        x.freeze();
        due.is("a new question and a new household", x.changes(0, 1), 0);
        due.is("a new question and a new household", x.changes(1, 0), 0);
        x.answer(0, 0, -1, 5);
        x.answer(1, 1, -1, 5);
        x.freeze();
        due.is("in both", x.changes(0, 2), 1);
        due.is("in both", x.changes(1, 2), 2);
        due.is("the last", x.changeAt(1, 2, 1, 0), 1);
        due.is("the last", x.changeAt(1, 2, 1, 1), 1);
    }

    private static void changesOfMade() {
        HouseholdVault x = new HouseholdVault();
        x.question(5, -1);
        x.question(2, 0);
        int map = x.map(1);
        x.sum(1);
        x.row(map, 0, 5, 1);
        x.household();
        x.answer(0, 0, -1, 1);
        x.freeze();
        x.answer(0, 1, 0, 3);
        due.is("now", x.value(0, map, 0), 1);
        x.freeze();
        due.is("made ones do not change", x.changes(0, 1), 1);
        due.is("the one they are made of does", x.changeAt(0, 1, 0, 1), 1);
    }

    private static void changeAtRefusals() {
        HouseholdVault x = new HouseholdVault();
        x.question(2, -1);
        x.household();
        x.freeze();
        x.answer(0, 0, -1, 5);
        x.freeze();
        due.is("there", x.changeAt(0, 1, 0, 2), -1);
        due.is("no such e", x.changeAt(-1, 1, 0, 0), -2);
        due.is("no such e", x.changeAt(2, 1, 0, 0), -2);
        due.is("no such f", x.changeAt(0, -1, 0, 0), -2);
        due.is("no such f", x.changeAt(0, 2, 0, 0), -2);
        due.is("k -1", x.changeAt(0, 1, -1, 0), -2);
        due.is("k 1", x.changeAt(0, 1, 1, 0), -2);
        due.is("what -1", x.changeAt(0, 1, 0, -1), -2);
        due.is("what 3", x.changeAt(0, 1, 0, 3), -2);
        due.is("of one to itself", x.changeAt(1, 1, 0, 0), -2);
    }

    private static void merge() {
        HouseholdVault x = new HouseholdVault();
        x.question(2, -1);
        x.question(1, -1);
        x.household();
        x.household();
        due.is("no such edition", x.merge(0), BAD);
        x.answer(0, 0, -1, 0);
        x.answer(0, 1, -1, 0);
        x.answer(1, 0, -1, 5);
        x.missing(1, 1, -1, 3);
        x.freeze();
        due.is("no such edition", x.merge(-1), BAD);
        due.is("no such edition", x.merge(1), BAD);
        due.is("nothing is missing", x.merge(0), 0);
        x.missing(0, 0, -1, 2);
        x.missing(0, 1, -1, 5);
        x.answer(1, 0, -1, 6);
        x.missing(1, 1, -1, 4);
        due.is("two come back", x.merge(0), 2);
        due.is("0 came back", x.reason(0, 0, -1), 0);
        due.is("a set of none came back", x.reason(0, 1, -1), 0);
        due.is("what is there stays", x.value(1, 0, -1), 6);
        due.is("what was missing stays as it is", x.reason(1, 1, -1), 4);
        due.is("again", x.merge(0), 0);
        x.missing(1, 0, -1, 1);
        due.is("one more", x.merge(0), 1);
        due.is("as it was", x.value(1, 0, -1), 5);
        due.is("the edition is as it was", x.frozenReason(0, 1, 1, -1), 3);
    }

    private static void mergeOfPersons() {
        HouseholdVault x = new HouseholdVault();
        x.question(5, -1);
        x.question(2, 0);
        x.household();
        x.answer(0, 0, -1, 3);
        for (int person = 0; person < 3; person++) x.answer(0, 1, person, 10 + person);
        x.freeze();
        x.answer(0, 0, -1, 0);
        due.is("nobody is there", x.merge(0), 0);
        due.is("a roster stays", x.value(0, 0, -1), 0);
        x.answer(0, 0, -1, 2);
        due.is("two of three", x.merge(0), 2);
        due.is("person 0", x.value(0, 1, 0), 10);
        due.is("person 1", x.value(0, 1, 1), 11);
        due.is("a roster stays", x.value(0, 0, -1), 2);
        x.answer(0, 0, -1, 5);
        x.missing(0, 1, 0, 3);
        x.answer(0, 1, 1, 99);
        due.is("three of five, of whom one has answered", x.merge(0), 2);
        due.is("person 0", x.value(0, 1, 0), 10);
        due.is("person 1", x.value(0, 1, 1), 99);
        due.is("person 2", x.value(0, 1, 2), 12);
        due.is("person 3 was not there", x.reason(0, 1, 3), 1);
    }

    private static void mergeOfElderEditions() {
        HouseholdVault x = new HouseholdVault();
        x.question(2, -1);
        x.household();
        x.answer(0, 0, -1, 5);
        x.freeze();
        x.question(2, -1);
        x.household();
        x.missing(0, 0, -1, 2);
        due.is("one comes back", x.merge(0), 1);
        due.is("a later question", x.reason(0, 1, -1), 1);
        due.is("a later household", x.reason(1, 0, -1), 1);
    }

    private static void mergeAndMade() {
        HouseholdVault x = new HouseholdVault();
        x.question(2, -1);
        x.map(0);
        x.row(1, 0, 9, 3);
        int lacks = x.ask(3, 0, 0);
        x.household();
        x.answer(0, 0, -1, 5);
        x.value(0, 1, -1);
        x.freeze();
        x.missing(0, 0, -1, 2);
        due.is("so", x.holds(lacks, 0, -1), 1);
        due.is("made as that is", x.reason(0, 1, -1), 2);
        due.is("made ones are not counted", x.merge(0), 1);
        due.is("made anew", x.value(0, 1, -1), 3);
        due.is("not so", x.holds(lacks, 0, -1), 0);
    }

    private static void count() {
        HouseholdVault x = new HouseholdVault();
        x.question(0, -1);
        x.question(0, -1);
        x.map(0);
        x.household();
        x.household();
        for (int c = 0; c < 4; c++) x.ask(3, 0, 0);
        for (int e = 0; e < 5; e++) x.freeze();
        for (int c = 0; c < 5; c++) x.code(0, c);
        for (int c = 0; c < 6; c++) x.code(1, c);
        due.is("no table", x.count(4), 0);
        due.is("no table", x.count(5), 0);
        x.table(0, 1);
        int[] wanted = {3, 2, 4, 5, 6, 7};
        for (int what = 0; what < 6; what++) due.is("count(" + what + ")", x.count(what), wanted[what]);
        due.is("what -1", x.count(-1), BAD);
        due.is("what 6", x.count(6), BAD);
        x.table(1, -1);
        due.is("rows of one question", x.count(4), 7);
        due.is("columns of one question", x.count(5), 1);
    }
}
