import java.lang.reflect.InvocationTargetException;
import java.lang.reflect.Method;
import java.util.Set;
import java.util.TreeMap;
import java.util.TreeSet;

/** Runs the cases of a test: its methods that are named p, the promise's number, _ and the case. */
final class Cases {
    private static String running = "";
    private static int wrong = 0;

    private Cases() { }

    static void wrong(String what) {
        wrong++;
        System.out.println(running + ": " + what);
    }

    /** All cases of a class, of promises first to last: each of them must have one. */
    static void runAll(Class<?> test, int first, int last) throws IllegalAccessException {
        TreeMap<String, Method> cases = new TreeMap<>();
        for (Method m : test.getDeclaredMethods()) if (m.getName().matches("p\\d\\d_\\w+")) cases.put(m.getName(), m);
        Set<Integer> without = new TreeSet<>();
        for (int p = first; p <= last; p++) without.add(p);
        for (Method m : cases.values()) {
            running = m.getName();
            int promise = Integer.parseInt(running.substring(1, 3));
            if (promise < first || promise > last) wrong("not one of the promises " + first + " to " + last);
            without.remove(promise);
            runOne(m);
        }
        running = test.getName();
        if (!without.isEmpty()) wrong("no case for the promises " + without);
        System.out.println(wrong == 0 ? cases.size() + " cases are as due" : wrong + " answers are not as due");
        if (wrong != 0) System.exit(1);
    }

    private static void runOne(Method m) throws IllegalAccessException {
        try {
            m.setAccessible(true);
            m.invoke(null);
        } catch (InvocationTargetException e) {
            wrong("it threw " + e.getCause());
        }
    }
}
