import java.lang.reflect.Constructor;
import java.lang.reflect.Field;
import java.lang.reflect.InvocationTargetException;
import java.lang.reflect.Method;
import java.lang.reflect.Modifier;
import java.util.Arrays;
import java.util.Set;
import java.util.TreeSet;

/** The class's face, and calls with strange arguments, none of which may throw. */
final class FaceTest {
    private static final Due due = new Due("FaceTest");
    private static final String[] FACE = {
        "int question(int,int)", "int code(int,int)", "int map(int)", "int row(int,long,long,int)",
        "int howMany(int,int)", "int sum(int)", "int of(int,int)", "int codeAt(int,int)", "int household()",
        "int answer(int,int,int,long)", "int missing(int,int,int,int)", "long value(int,int,int)",
        "int reason(int,int,int)", "int ask(int,int,long)", "int logic(int,int,int)", "int some(int,int)",
        "int holds(int,int,int)", "int filter(int,int)", "int against()", "int againstAt(int,int)",
        "int weight(int,int,int)", "int table(int,int)", "long cell(int,int,int)", "int shares(int)",
        "int share(int,int)", "int shown(int)", "int follows()", "int rank(int,int)", "long part(int,int,int,int)",
        "int mark(int,boolean)", "int doubles()", "int doubleAt(int,int)", "int freeze()",
        "long frozen(int,int,int,int)", "int frozenReason(int,int,int,int)", "int changes(int,int)",
        "int changeAt(int,int,int,int)", "int merge(int)", "int count(int)"};
    private static final long[] STRANGE = {Long.MIN_VALUE, Integer.MIN_VALUE, -2, -1, 0, 1, 5, 23, 24, 59,
        Integer.MAX_VALUE, Long.MAX_VALUE};

    public static void main(String[] args) {
        face();
        strangeCalls(new HouseholdVault());
        strangeCalls(crowded());
        due.end();
    }

    private static void face() {
        Class<?> type = HouseholdVault.class;
        due.holds("the class is public and final", Modifier.isPublic(type.getModifiers())
            && Modifier.isFinal(type.getModifiers()));
        Set<String> wanted = new TreeSet<>(Arrays.asList(FACE));
        Set<String> found = new TreeSet<>();
        Set<String> hidden = new TreeSet<>();
        for (Method method : type.getDeclaredMethods()) {
            if (Modifier.isPrivate(method.getModifiers())) hidden.add(method.getName());
            else found.add(told(method));
        }
        due.holds("the methods are those of the document: " + found, found.equals(wanted));
        for (String one : wanted) {
            String name = one.substring(one.indexOf(' ') + 1, one.indexOf('('));
            due.holds("no private method is named " + name, !hidden.contains(name));
        }
        Set<String> constants = new TreeSet<>();
        for (Field field : type.getDeclaredFields()) {
            if (!Modifier.isPrivate(field.getModifiers())) constants.add(field.getName());
        }
        due.holds("the constants are those of the document", constants.equals(Set.of("BAD", "KIND", "TWICE", "FULL")));
        due.is("BAD", HouseholdVault.BAD, -1);
        due.is("KIND", HouseholdVault.KIND, -2);
        due.is("TWICE", HouseholdVault.TWICE, -3);
        due.is("FULL", HouseholdVault.FULL, -4);
        Constructor<?>[] made = type.getDeclaredConstructors();
        due.holds("there is one constructor, public and without parameters", made.length == 1
            && Modifier.isPublic(made[0].getModifiers()) && made[0].getParameterCount() == 0);
        for (Class<?> inside : type.getDeclaredClasses()) {
            due.holds(inside + " is static", Modifier.isStatic(inside.getModifiers()));
        }
    }

    private static String told(Method method) {
        StringBuilder all = new StringBuilder(method.getReturnType() + " " + method.getName() + "(");
        Class<?>[] types = method.getParameterTypes();
        for (int i = 0; i < types.length; i++) all.append(i == 0 ? "" : ",").append(types[i]);
        return all.append(")").toString();
    }

    private static HouseholdVault crowded() {
        HouseholdVault x = new HouseholdVault();
        for (int kind = 5; kind >= 0; kind--) x.question(kind, -1);
        for (int kind = 0; kind < 5; kind++) x.question(kind, 0);
        for (int c = 0; c < 8; c++) {
            x.code(5, c);
            x.code(4, c);
            x.code(6, c);
        }
        int map = x.map(3);
        x.row(map, Long.MIN_VALUE, Long.MAX_VALUE, 0);
        x.sum(8);
        for (int q = 0; q < 13; q++) x.ask(3, q, 0);
        x.howMany(0, 7);
        for (int h = 0; h < 39; h++) {
            x.household();
            x.answer(h, 0, -1, h % 6);
            x.answer(h, 5, -1, h % 8);
        }
        x.mark(0, true);
        x.freeze();
        x.freeze();
        x.table(5, 5);
        x.shown(3);
        return x;
    }

    private static void strangeCalls(HouseholdVault x) {
        for (Method method : HouseholdVault.class.getDeclaredMethods()) {
            if (!Modifier.isPublic(method.getModifiers())) continue;
            int parameters = method.getParameterCount();
            long all = 1;
            for (int i = 0; i < parameters; i++) all *= STRANGE.length;
            for (long n = 0; n < all; n++) call(x, method, n);
        }
    }

    private static void call(HouseholdVault x, Method method, long n) {
        Class<?>[] types = method.getParameterTypes();
        Object[] given = new Object[types.length];
        long left = n;
        for (int i = 0; i < types.length; i++) {
            long v = STRANGE[(int) (left % STRANGE.length)];
            left /= STRANGE.length;
            if (types[i] == long.class) given[i] = v;
            else if (types[i] == boolean.class) given[i] = v > 0;
            else given[i] = (int) v;
        }
        try {
            method.invoke(x, given);
        } catch (InvocationTargetException thrown) {
            due.holds(method.getName() + Arrays.toString(given) + " throws nothing: " + thrown.getCause(), false);
        } catch (IllegalAccessException hidden) {
            throw new IllegalStateException(hidden);
        }
    }
}
