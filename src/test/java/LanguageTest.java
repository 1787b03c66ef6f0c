import java.lang.reflect.Constructor;
import java.lang.reflect.Field;
import java.lang.reflect.Method;
import java.lang.reflect.Modifier;
import java.nio.file.Files;
import java.nio.file.Path;
import java.util.ArrayList;
import java.util.Arrays;
import java.util.List;
import java.util.Map;
import java.util.Set;
import java.util.TreeMap;
import java.util.TreeSet;
import java.util.regex.Matcher;
import java.util.regex.Pattern;

/** The document's face, and what of LANGUAGE.md can be told from the class and from its source. */
public final class LanguageTest {
    private static final String SOURCE = "src/main/java/SpoonScales.java";
    private static final String[] FACE = {
        "boolean pot(int,int,int)", "int eater(int,int,int)", "boolean seed(int)", "boolean sit(int,int)", "int spoon(int,int)",
        "int judge(int)", "int flies(int)", "int feed(int,int,int,int,int)", "int end(int)", "int text()", "int fault(int)",
        "boolean by(int)", "int played(int)", "int undo()", "int of(int,int)", "int written(int,int)", "int dent(int,int)",
        "int called(int,int,int)", "int acquitted(int,int)", "int sets(int,int,int,int)", "int tested(int,int)", "int fits()",
        "int next()", "int hired(int)", "int contrary()", "long odds(int,int,boolean)", "int tell(int,int)", "int liars()",
        "int inWhoseName(int)", "int image()", "int back()", "int about(int)"};
    private static int wrong = 0;

    private static void must(boolean holds, String what) {
        if (!holds) {
            wrong++;
            System.out.println("not so: " + what);
        }
    }

    public static void main(String[] args) throws Exception {
        face();
        inside();
        source(Files.readString(Path.of(SOURCE)));
        room();
        System.out.println(wrong == 0 ? "the face and the language are as due" : wrong + " rules are broken");
        if (wrong != 0) System.exit(1);
    }

    private static String shown(Method m) {
        List<String> types = new ArrayList<>();
        for (Class<?> t : m.getParameterTypes()) types.add(t.getName());
        return m.getReturnType().getName() + " " + m.getName() + "(" + String.join(",", types) + ")";
    }

    private static void face() {
        Class<?> c = SpoonScales.class;
        must(Modifier.isPublic(c.getModifiers()) && Modifier.isFinal(c.getModifiers()), "the class is public and final");
        Set<String> due = new TreeSet<>(Arrays.asList(FACE));
        Set<String> names = new TreeSet<>();
        Set<String> found = new TreeSet<>();
        for (String s : FACE) names.add(s.substring(s.indexOf(' ') + 1, s.indexOf('(')));
        for (Method m : c.getDeclaredMethods()) {
            if (Modifier.isPublic(m.getModifiers())) found.add(shown(m));
            else must(Modifier.isPrivate(m.getModifiers()) && !names.contains(m.getName()), "private, and not named as a public one: " + m);
            must(!Modifier.isPublic(m.getModifiers()) || !Modifier.isStatic(m.getModifiers()), "no public static: " + m);
        }
        must(due.equals(found), "the face is " + due + ", not " + found);
        Constructor<?>[] made = c.getDeclaredConstructors();
        must(made.length == 1 && Modifier.isPublic(made[0].getModifiers()) && made[0].getParameterCount() == 0, "one constructor");
        for (Field f : c.getDeclaredFields()) {
            must(Modifier.isPrivate(f.getModifiers()) || f.getName().equals("NONE"), "a private field: " + f);
        }
        for (Class<?> in : c.getDeclaredClasses()) {
            for (Method m : in.getDeclaredMethods()) must(!names.contains(m.getName()), "named as a public one: " + m);
        }
    }

    private static void inside() {
        List<Class<?>> all = new ArrayList<>(Arrays.asList(SpoonScales.class.getDeclaredClasses()));
        must(all.size() < 12, "at most twelve classes");
        for (Class<?> c : all) {
            must(Modifier.isStatic(c.getModifiers()) && !Modifier.isPublic(c.getModifiers()), "static and not public: " + c);
            must(c.getDeclaredClasses().length == 0, "no class inside " + c);
        }
        all.add(SpoonScales.class);
        for (Class<?> c : all) {
            int own = 0;
            for (Field f : c.getDeclaredFields()) {
                if (!Modifier.isStatic(f.getModifiers())) own++;
                else must(Modifier.isFinal(f.getModifiers()), "a static field is final: " + f);
            }
            must(own <= 20, "at most twenty fields: " + c + " has " + own);
            for (Method m : c.getDeclaredMethods()) must(m.getParameterCount() <= 7, "at most seven parameters: " + m);
        }
    }

    private static void source(String text) {
        String bare = text.replaceAll("(?s)/\\*.*?\\*/", " ").replaceAll("//[^\n]*", " ").replaceAll("\"[^\"]*\"", "\"\"");
        for (char c : text.toCharArray()) must(c == '\n' || (c >= 32 && c < 127), "a plain sign: " + (int) c);
        String[] never = {"throw", "throws", "try", "catch", "synchronized", "assert", "import", "package", "static\\s*\\{", "->", "::",
            "hashCode", "toString", "protected", "native", "volatile", "transient", "double", "float", "random", "nanoTime",
            "currentTimeMillis", "Thread", "Object"};
        for (String n : never) {
            Matcher m = Pattern.compile(Character.isLetter(n.charAt(0)) ? "\\b" + n + "(?!\\w)" : n).matcher(bare);
            must(!m.find(), "never: " + n);
        }
        must(!Pattern.compile("\"\"\\s*\\+|\\+\\s*\"\"").matcher(bare).find(), "no joining of texts by +");
        must(!Pattern.compile("while\\s*\\(\\s*true|for\\s*\\(\\s*;\\s*;").matcher(bare).find(), "no loop without an end");
        Matcher used = Pattern.compile("\\b(Math|Integer|Long|System|Arrays|String|StringBuilder)\\.(\\w+)").matcher(bare);
        Set<String> known = Set.of("Math.min", "Math.max", "Math.abs", "Integer.bitCount", "System.arraycopy");
        while (used.find()) must(known.contains(used.group()), "a known function: " + used.group());
        lengths(text.split("\n"));
        depths(bare.split("\n"));
    }

    private static final String METHOD = "( {4}| {8})(private |public |static |final )*[\\w\\[\\]]* ?(\\w+)\\((.*)\\) \\{";

    private static void lengths(String[] lines) {
        int start = 0;
        for (int i = 0; i < lines.length; i++) {
            String line = lines[i];
            must(line.length() <= 200, "a line that can be read: " + (i + 1));
            if (line.matches(METHOD)) start = i;
            if (line.matches(" {4}( {4})?\\}")) must(i - start < 61, "a short method at line " + (start + 1));
        }
    }

    /** Calls go at most eight deep, and who calls itself carries its depth; methods of one name count as one. */
    private static void depths(String[] lines) {
        Map<String, Set<String>> calls = new TreeMap<>();
        Map<String, String> given = new TreeMap<>();
        String in = "";
        for (String line : lines) {
            Matcher m = Pattern.compile(METHOD).matcher(line);
            if (m.matches() && !line.matches(" *(if|for|while|switch) .*")) {
                in = m.group(3);
                given.merge(in, m.group(4), (a, b) -> a);
                calls.computeIfAbsent(in, name -> new TreeSet<>());
            } else if (!in.isEmpty()) {
                Matcher called = Pattern.compile("\\b(\\w+)\\(").matcher(line);
                while (called.find()) calls.get(in).add(called.group(1));
            }
        }
        must(calls.size() > 60 && calls.containsKey("trySpoons") && calls.get("read").contains("readClause"), "methods are found: " + calls.keySet());
        for (Set<String> names : calls.values()) names.retainAll(calls.keySet());
        for (String name : calls.keySet()) {
            // The copies of scenes, steps and courts bear one name, and each calls the lesser one's.
            boolean itself = calls.get(name).remove(name) && !name.equals("copyFrom");
            must(!itself || given.get(name).contains("int depth"), "its depth is carried: " + name);
        }
        for (String name : calls.keySet()) {
            int deep = deepest(name, calls, new ArrayList<>());
            must(deep <= 8, "at most eight deep: " + name + " goes " + deep);
        }
    }

    private static int deepest(String name, Map<String, Set<String>> calls, List<String> open) {
        must(!open.contains(name), "none that call one another in a circle: " + name);
        if (open.contains(name)) return 0;
        open.add(name);
        int deep = 0;
        for (String next : calls.get(name)) deep = Math.max(deep, deepest(next, calls, open));
        open.remove(name);
        return deep + 1;
    }

    /** What calls make stays in the room: they make nothing, and a new object is small. */
    private static void room() {
        com.sun.management.ThreadMXBean bean = (com.sun.management.ThreadMXBean) java.lang.management.ManagementFactory.getThreadMXBean();
        long me = Thread.currentThread().getId();
        new SpoonScales();
        long before = bean.getThreadAllocatedBytes(me);
        SpoonScales x = new SpoonScales();
        long made = bean.getThreadAllocatedBytes(me) - before;
        must(made < 100000, "a new object is small: " + made + " bytes");
        for (int e = 0; e < 9; e++) {
            x.eater(0, 9, e);
            x.sit(e, e % 2);
        }
        for (int p = 0; p < 4; p++) x.pot(p / 2, p % 2, 900 + 20 * p);
        calls(x, 3);
        before = bean.getThreadAllocatedBytes(me);
        calls(x, 17);
        long grown = bean.getThreadAllocatedBytes(me) - before;
        must(grown < 20000, "calls make nothing: " + grown + " bytes");
    }

    private static void calls(SpoonScales x, int n) {
        for (int i = 0; i < n; i++) {
            x.spoon(i % 9, i % 2);
            x.judge(i % 2);
            x.flies(3);
            x.feed(0x65617473, 0x206c6566, 0x742f3130, 0x303b0a20, 0x20202020);
            x.text();
            x.by(0);
            x.played(0);
            x.called(63, 0, -1);
            x.acquitted(0, -1);
            x.sets(0, 0, 5, -1);
            x.tested(0, 1);
            x.next();
            x.hired(500);
            x.contrary();
            x.odds(0, 6, true);
            x.tell(0, 1);
            x.liars();
            x.inWhoseName(0);
            x.image();
            x.undo();
            x.back();
        }
    }
}
