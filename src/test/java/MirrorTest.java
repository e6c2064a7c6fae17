import java.lang.reflect.InvocationTargetException;
import java.lang.reflect.Method;
import java.util.Random;

/** All promises at once: long runs of mixed calls, of which each must answer as the mirror does. */
final class MirrorTest {
    private static final int RUNS = 500, TABLES = 250, CALLS = 512;
    /**
     * A name; what its parameters mean (q question, r roster, t question for a table, h household, p person,
     * c condition, e edition, C code, R reason, v number, ..); how often it comes early and late in a run.
     */
    private static final String[] CALLED = {
        "question kr 30 2", "code qC 25 4", "map q 6 2", "row qLLC 14 8", "howMany rc 6 2", "sum q 5 2", "of qw 2 4",
        "codeAt qi 2 2", "household . 25 3", "answer hqpv 60 90", "missing hqpR 6 16", "value hqp 3 20",
        "reason hqp 2 10", "ask wqv 20 8", "logic wcc 14 6", "some cn 6 4", "holds chp 3 20", "filter qc 10 8",
        "against . 1 8", "againstAt kw 1 12", "weight hul 5 6", "table tt 2 12", "cell ijw 1 14", "shares N 1 6",
        "share ij 1 12", "shown T 1 12", "follows . 1 6", "rank qk 1 14", "part qcul 1 14", "mark qb 6 6",
        "doubles . 1 8", "doubleAt kw 1 8", "freeze . 1 2", "frozen ehqp 1 10", "frozenReason ehqp 1 10",
        "changes ee 1 8", "changeAt eekw 1 16", "merge e 1 4", "count w 1 3"};
    private static final Due due = new Due("MirrorTest");
    private static Random random;
    private static HouseholdVault vault;
    private static Mirror mirror;

    private static final class Call {
        final String name;
        final String means;
        final int[] often;
        final Method ofVault;
        final Method ofMirror;

        Call(String told) {
            String[] parts = told.split(" ");
            name = parts[0];
            means = parts[1].equals(".") ? "" : parts[1];
            often = new int[] {Integer.parseInt(parts[2]), Integer.parseInt(parts[3])};
            ofVault = find(HouseholdVault.class, name);
            ofMirror = find(Mirror.class, name);
        }

        private static Method find(Class<?> type, String name) {
            for (Method method : type.getDeclaredMethods()) {
                if (method.getName().equals(name)) return method;
            }
            throw new IllegalStateException("no method " + name + " in " + type);
        }
    }

    public static void main(String[] args) {
        Call[] calls = new Call[CALLED.length];
        for (int i = 0; i < calls.length; i++) calls[i] = new Call(CALLED[i]);
        for (int run = 0; run < RUNS; run++) {
            start(run);
            int few = run % 3 == 0 ? 3 : 40;
            for (int n = 0; n < CALLS; n++) step(calls, run, n, few);
        }
        for (int run = 0; run < TABLES; run++) tables(run);
        due.end();
    }

    private static void start(int seed) {
        random = new Random(seed);
        vault = new HouseholdVault();
        mirror = new Mirror();
    }

    private static void step(Call[] calls, int run, int n, int few) {
        int late = n < CALLS / 3 ? 0 : 1;
        Call call = choose(calls, late);
        if (call.name.equals("household") && mirror.count(1) >= few) call = choose(calls, 1);
        long[] a = new long[call.means.length()];
        for (int i = 0; i < a.length; i++) a[i] = argument(call, i, a);
        if (call.name.equals("answer")) a[3] = likelyValue((int) a[1]);
        StringBuilder told = new StringBuilder("run " + run + ", call " + n + ": " + call.name + "(");
        for (int i = 0; i < a.length; i++) told.append(i == 0 ? "" : ", ").append(a[i]);
        due.is(told.append(")").toString(), answerOf(call.ofVault, vault, a), answerOf(call.ofMirror, mirror, a));
    }

    private static long answerOf(Method method, Object object, long[] a) {
        Class<?>[] types = method.getParameterTypes();
        Object[] given = new Object[types.length];
        for (int i = 0; i < types.length; i++) {
            if (types[i] == long.class) given[i] = a[i];
            else if (types[i] == boolean.class) given[i] = a[i] != 0;
            else given[i] = (int) a[i];
        }
        try {
            return ((Number) method.invoke(object, given)).longValue();
        } catch (InvocationTargetException thrown) {
            due.holds(method.getName() + " throws nothing: " + thrown.getCause(), false);
            return Long.MIN_VALUE;
        } catch (IllegalAccessException hidden) {
            throw new IllegalStateException(hidden);
        }
    }

    private static Call choose(Call[] calls, int late) {
        int all = 0;
        for (Call call : calls) all += call.often[late];
        int at = random.nextInt(all);
        for (Call call : calls) {
            at -= call.often[late];
            if (at < 0) return call;
        }
        return calls[0];
    }

    private static long argument(Call call, int i, long[] before) {
        switch (call.means.charAt(i)) {
            case 'q': return near(mirror.count(0));
            case 'r': return random.nextInt(3) == 0 ? -1 : like(5, false);
            case 't': return random.nextInt(4) == 0 ? -1 : like(0, true);
            case 'h': return near(mirror.count(1));
            case 'c': return random.nextInt(20) == 0 ? -1 : near(mirror.count(2));
            case 'e': return near(mirror.count(3));
            case 'p': return person(call, i, before);
            case 'C': return random.nextInt(20) == 0 ? strange() : random.nextInt(9);
            case 'k': return near(call.name.equals("question") ? 6 : call.name.equals("rank") ? mirror.count(1) : 8);
            case 'w': return near(call.name.equals("of") || call.name.equals("count") ? 6 : 3);
            case 'u': return random.nextInt(20) == 0 ? strange() : random.nextInt(5);
            case 'l': return near(11);
            case 'i': case 'n': case 'R': return near(6);
            case 'j': return near(3);
            case 'N': return random.nextInt(5) == 0 ? near(1000002) : random.nextInt(60);
            case 'T': return random.nextInt(10) == 0 ? strange() : random.nextInt(6);
            case 'b': return random.nextInt(2);
            default: return small();
        }
    }

    private static long near(int count) {
        if (random.nextInt(25) == 0) return strange();
        return count == 0 ? random.nextInt(2) - 1 : random.nextInt(count);
    }

    private static int strange() {
        int[] all = {-1, -2, Integer.MIN_VALUE, Integer.MAX_VALUE, 24, 40, 60, 6, 1000, -128, 127, 128};
        return all[random.nextInt(all.length)];
    }

    private static long small() {
        if (random.nextInt(30) == 0) return random.nextBoolean() ? Long.MIN_VALUE : Long.MAX_VALUE;
        return random.nextInt(12) - 3;
    }

    private static long like(int kind, boolean atTop) {
        for (int turn = 0; turn < 8; turn++) {
            int q = (int) near(mirror.count(0));
            if (mirror.of(q, 0) == kind && (!atTop || mirror.of(q, 1) == -1)) return q;
        }
        return near(mirror.count(0));
    }

    /** Mostly one that is there: the household and the question, or condition, stand ahead of it. */
    private static long person(Call call, int i, long[] before) {
        if (random.nextInt(20) == 0) return random.nextInt(7) - 1;
        boolean ofCondition = call.name.equals("holds");
        int h = (int) before[ofCondition ? i - 1 : i - 2];
        int roster = ofCondition ? (int) like(5, true) : mirror.of((int) before[i - 1], 1);
        if (roster < 0 || ofCondition && random.nextBoolean()) return -1;
        return random.nextInt(Math.max(1, (int) mirror.value(h, roster, -1)));
    }

    private static long likelyValue(int q) {
        if (random.nextInt(12) == 0) return small();
        switch (mirror.of(q, 0)) {
            case 0: return mirror.codeAt(q, random.nextInt(Math.max(1, mirror.of(q, 2))));
            case 1: return random.nextInt(1 << Math.max(0, mirror.of(q, 2)));
            case 2: return random.nextInt(9) == 0 ? Integer.MAX_VALUE - random.nextInt(3) : random.nextInt(12) - 3;
            case 5: return random.nextInt(4) + random.nextInt(3);
            default: return random.nextInt(12) - 3;
        }
    }

    /** Tables of all sizes, some of them crowded in a corner, with every cell looked at. */
    private static void tables(int run) {
        start(run);
        String at = "table " + run + ": ";
        for (int q = 0; q < 2; q++) {
            vault.question(0, -1);
            mirror.question(0, -1);
            int codes = random.nextInt(9);
            for (int c = 0; c < codes; c++) due.is(at + "code", vault.code(q, c), mirror.code(q, c));
        }
        int households = random.nextInt(41);
        int crowd = 1 + random.nextInt(9);
        for (int h = 0; h < households; h++) {
            due.is(at + "household", vault.household(), mirror.household());
            for (int q = 0; q < 2; q++) {
                int c = random.nextInt(crowd);
                due.is(at + "answer", vault.answer(h, q, -1, c), mirror.answer(h, q, -1, c));
            }
            int up = random.nextInt(4);
            int low = 1 + random.nextInt(10);
            due.is(at + "weight", vault.weight(h, up, low), mirror.weight(h, up, low));
        }
        int second = run % 5 == 0 ? -1 : 1;
        due.is(at + "cells", vault.table(0, second), mirror.table(0, second));
        int n = random.nextInt(200);
        due.is(at + "shares", vault.shares(n), mirror.shares(n));
        cells(at + "shares of " + n, 3);
        for (int turn = 0; turn < 2; turn++) {
            int threshold = 1 + random.nextInt(4);
            due.is(at + "shown " + threshold, vault.shown(threshold), mirror.shown(threshold));
            due.is(at + "follows", vault.follows(), mirror.follows());
            cells(at + "shown " + threshold, 2);
        }
    }

    private static void cells(String at, int what) {
        for (int i = 0; i < mirror.count(4); i++) {
            for (int j = 0; j < mirror.count(5); j++) {
                long got = what == 3 ? vault.share(i, j) : vault.cell(i, j, what);
                long want = what == 3 ? mirror.share(i, j) : mirror.cell(i, j, what);
                due.is(at + ", cell " + i + ", " + j, got, want);
            }
        }
    }
}
