/** Vaults in which something of each sort is there, some of them full. None takes more than 200 calls. */
final class Scene {
    /** Questions of a crowd. At the TOP stand TOLD ones first, by their KINDS from 0 to 5; then those IN the ROSTER. */
    static final int CODE = 0, CODES = 1, WHOLE = 2, CENTS = 3, DAY = 4, ROSTER = 5;
    static final int CODE_IN = 6, CODES_IN = 7, WHOLE_IN = 8, CENTS_IN = 9, DAY_IN = 10;
    static final int MAP = 11, SUM = 12, ROSTER_2 = 13, WHOLE_IN_2 = 14, HOW_MANY = 15, MAP_IN = 16;
    static final int QUESTIONS = 17, HOUSEHOLDS = 3, EDITIONS = 2;
    /** Conditions of a crowd. */
    static final int AT_TOP = 0, IN_ROSTER = 1, BOTH_IN = 2, SOME_AT_TOP = 3, IN_ROSTER_2 = 4;
    static final int CONDITIONS = 5;
    /** Conditions of SIZE 30, where the vault is wide or full. */
    static final int WIDE_AT_TOP = 11, WIDE_IN = 15;
    static final int WIDE_CONDITIONS = 16;

    private Scene() {
    }

    static void empty(HouseholdVault x) {
    }

    /** Six kinds at the TOP, five IN the ROSTER; neither codes nor households. */
    static void kinds(HouseholdVault x) {
        for (int kind = 0; kind < 6; kind++) x.question(kind, -1);
        for (int kind = 0; kind < 5; kind++) x.question(kind, ROSTER);
    }

    static void crowd(HouseholdVault x) {
        kinds(x);
        x.code(CODE, 5);
        x.code(CODE, -6);
        for (int c = 7; c < 10; c++) x.code(CODES, c);
        x.code(CODE_IN, 1);
        x.code(CODES_IN, 2);
        x.map(WHOLE);
        x.row(MAP, 0, 9, 50);
        x.row(MAP, 10, 19, -60);
        x.sum(WHOLE_IN);
        x.question(5, -1);
        x.question(2, ROSTER_2);
        x.ask(2, WHOLE, 0);
        x.ask(2, WHOLE_IN, 0);
        x.logic(0, AT_TOP, IN_ROSTER);
        x.some(IN_ROSTER, 1);
        x.ask(0, WHOLE_IN_2, 1);
        x.howMany(ROSTER, IN_ROSTER);
        x.map(WHOLE_IN);
        x.row(MAP_IN, 0, 9, 3);
        for (int h = 0; h < HOUSEHOLDS; h++) x.household();
        answers(x);
        x.mark(ROSTER, true);
        x.filter(DAY, AT_TOP);
        x.freeze();
        x.missing(0, WHOLE, -1, 3);
        x.answer(1, ROSTER, -1, 2);
        x.freeze();
        x.table(CODE, MAP);
        x.shares(10);
        x.shown(2);
    }

    private static void answers(HouseholdVault x) {
        x.answer(0, CODE, -1, 5);
        x.answer(1, CODE, -1, -6);
        x.answer(0, CODES, -1, 5);
        x.answer(0, WHOLE, -1, 3);
        x.answer(1, WHOLE, -1, 12);
        x.answer(2, WHOLE, -1, -4);
        x.answer(0, CENTS, -1, 100000);
        x.answer(2, DAY, -1, 100);
        x.answer(0, ROSTER, -1, 2);
        x.answer(1, ROSTER, -1, 1);
        x.answer(0, CODE_IN, 0, 1);
        x.answer(0, WHOLE_IN, 0, 4);
        x.answer(0, WHOLE_IN, 1, -2);
        x.answer(1, WHOLE_IN, 0, 4);
        x.answer(0, ROSTER_2, -1, 1);
        x.answer(0, WHOLE_IN_2, 0, 1);
        x.weight(1, 1, 2);
    }

    /** A crowd with a CONDITION of SIZE 30 at the TOP, and one of SIZE 30 that REACHES the ROSTER. */
    static void wide(HouseholdVault x) {
        crowd(x);
        int three = x.logic(0, AT_TOP, AT_TOP);
        int seven = x.logic(0, three, three);
        int fifteen = x.logic(0, seven, seven);
        int four = x.logic(2, three, 0);
        int six = x.logic(0, four, AT_TOP);
        int fourteen = x.logic(0, seven, six);
        x.logic(1, fifteen, fourteen);
        int five = x.logic(0, IN_ROSTER, three);
        int thirteen = x.logic(1, seven, five);
        int fourteenIn = x.logic(2, thirteen, 0);
        x.logic(0, fifteen, fourteenIn);
    }

    /** Nothing more fits: 24 QUESTIONS, 8 CODES of one, 8 rows of a MAP, 60 CONDITIONS, 40 HOUSEHOLDS, 6 EDITIONS. */
    static void full(HouseholdVault x) {
        wide(x);
        for (int q = QUESTIONS; q < 24; q++) x.question(0, -1);
        for (int c = 0; c < 6; c++) x.code(CODE, 10 + c);
        for (int r = 2; r < 8; r++) x.row(MAP, 10 * r, 10 * r + 9, r);
        for (int c = WIDE_CONDITIONS; c < 60; c++) x.ask(3, WHOLE, 0);
        for (int h = HOUSEHOLDS; h < 40; h++) x.household();
        for (int e = EDITIONS; e < 6; e++) x.freeze();
    }
}
