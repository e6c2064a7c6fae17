import com.sun.management.ThreadMXBean;
import java.lang.management.ManagementFactory;
import java.lang.reflect.Array;
import java.lang.reflect.Field;
import java.lang.reflect.Modifier;
import java.util.ArrayDeque;
import java.util.Collections;
import java.util.Deque;
import java.util.IdentityHashMap;
import java.util.Set;

/**
 * Rule 12 of LANGUAGE.md: what is made is counted. The fullest vault is small, and all that it makes it keeps:
 * calls that tell, that are refused, or that change what is there make no object at all.
 */
final class RoomTest {
    private static final Due due = new Due("RoomTest");
    private static final int MOST_OBJECTS = 1500, MOST_PARTS = 90000;
    /** The room of one run, and the most calls on an object. */
    private static final int ROOM_OBJECTS = 600000, ROOM_PARTS = 7300000, CALLS = 512;
    /** So many that an object stays under its 512 calls, and the bytes that the least object takes. */
    private static final int ROUNDS = 8, LEAST_BYTES = 16;
    private static int objects;
    private static int parts;

    public static void main(String[] args) throws IllegalAccessException {
        HouseholdVault full = filled();
        measure(full);
        due.holds("the fullest vault has at most " + MOST_OBJECTS + " objects: " + objects, objects <= MOST_OBJECTS);
        due.holds("and " + MOST_PARTS + " fields and elements: " + parts, parts <= MOST_PARTS);
        dearestCall();
        makesNothing(full);
        due.end();
    }

    /** Questions, households, conditions and editions to the last one. */
    private static HouseholdVault filled() {
        HouseholdVault x = new HouseholdVault();
        fillForm(x);
        for (int h = 0; h < 40; h++) x.household();
        for (int e = 0; e < 6; e++) x.freeze();
        due.is("questions", x.count(0), 24);
        due.is("households", x.count(1), 40);
        due.is("conditions", x.count(2), 60);
        due.is("editions", x.count(3), 6);
        return x;
    }

    /** A MAP has more inside than any other question, so all but the first two are maps. */
    private static void fillForm(HouseholdVault x) {
        x.question(0, -1);
        x.question(5, -1);
        for (int q = 2; q < 24; q++) x.map(0);
        for (int c = 0; c < 60; c++) x.ask(0, c % 24, 0);
    }

    /** Even if every call of a run were the dearest one, the room would hold it. */
    private static void dearestCall() throws IllegalAccessException {
        HouseholdVault x = new HouseholdVault();
        fillForm(x);
        for (int h = 0; h < 40; h++) x.household();
        measure(x);
        int objectsBefore = objects;
        int partsBefore = parts;
        x.freeze();
        measure(x);
        int madeObjects = objects - objectsBefore;
        int madeParts = parts - partsBefore;
        due.holds("objects of an edition: " + madeObjects, madeObjects > 0 && madeObjects * CALLS <= ROOM_OBJECTS);
        due.holds("its fields and elements: " + madeParts, madeParts > 0 && madeParts * CALLS <= ROOM_PARTS);
    }

    /** Counts all that can be reached from an object, itself with it. */
    private static void measure(Object from) throws IllegalAccessException {
        objects = 0;
        parts = 0;
        Set<Object> seen = Collections.newSetFromMap(new IdentityHashMap<>());
        Deque<Object> open = new ArrayDeque<>();
        open.add(from);
        seen.add(from);
        while (!open.isEmpty()) {
            Object one = open.remove();
            objects++;
            if (one.getClass().isArray()) {
                parts += Array.getLength(one);
                for (int i = 0; i < Array.getLength(one) && one instanceof Object[]; i++) meet(Array.get(one, i), seen, open);
            } else {
                for (Field field : one.getClass().getDeclaredFields()) {
                    if (Modifier.isStatic(field.getModifiers())) continue;
                    parts++;
                    field.setAccessible(true);
                    if (!field.getType().isPrimitive()) meet(field.get(one), seen, open);
                }
            }
        }
    }

    private static void meet(Object one, Set<Object> seen, Deque<Object> open) {
        if (one != null && seen.add(one)) open.add(one);
    }

    private static void makesNothing(HouseholdVault x) {
        ThreadMXBean threads = (ThreadMXBean) ManagementFactory.getThreadMXBean();
        long self = Thread.currentThread().getId();
        callAll(x);
        long before = threads.getThreadAllocatedBytes(self);
        long between = threads.getThreadAllocatedBytes(self);
        for (int n = 0; n < ROUNDS; n++) callAll(x);
        long made = threads.getThreadAllocatedBytes(self) - between - (between - before);
        due.holds("calls on what is there make nothing: " + made + " bytes", made < ROUNDS * LEAST_BYTES);
    }

    /** Every call, in a vault where none of them can add a question, household, condition or edition. */
    private static void callAll(HouseholdVault x) {
        x.question(0, -1); x.code(0, 1); x.map(0); x.row(2, 0, 1, 1); x.howMany(1, 1); x.sum(0); x.of(0, 0);
        x.codeAt(0, 0); x.household(); x.answer(0, 1, -1, 2); x.answer(0, 0, -1, 1); x.missing(1, 0, -1, 2);
        x.value(0, 2, -1); x.reason(1, 2, -1); x.ask(0, 0, 0); x.logic(0, 0, 1); x.some(0, 1); x.holds(2, 0, -1);
        x.filter(1, 0); x.against(); x.againstAt(0, 0); x.weight(0, 2, 3); x.table(0, 2); x.cell(0, 0, 1);
        x.shares(100); x.share(0, 0); x.shown(3); x.follows(); x.rank(0, 1); x.part(0, 0, 1, 2); x.mark(0, true);
        x.doubles(); x.doubleAt(0, 1); x.freeze(); x.frozen(0, 0, 0, -1); x.frozenReason(0, 0, 0, -1);
        x.changes(0, 1); x.changeAt(0, 1, 0, 0); x.merge(0); x.count(0);
    }
}
