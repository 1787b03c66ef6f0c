import java.net.URL;
import java.net.URLClassLoader;
import java.nio.file.Files;
import java.nio.file.Path;
import java.util.regex.Matcher;
import java.util.regex.Pattern;
import java.util.stream.Stream;
import javax.tools.ToolProvider;

/** The Java on the page README.md, compiled as it stands there: each call answers the number behind its //. */
public final class ReadmeTest {
    private static final Pattern BLOCK = Pattern.compile("```java\n(.*?)```", Pattern.DOTALL);
    private static final Pattern CALL = Pattern.compile("(?:int (\\w+) = )?((?:court\\.|told\\()[^;\"]*(?:\"[^\"]*\")?[^;\"]*);\\s*// (-?\\d+|true|false)(?:: .*)?");
    private static final String DUE =
        "static int calls = 0, wrong = 0;\n"
        + "static void due(String call, Object got, Object want) {\n"
        + "  calls++;\n"
        + "  if (got.toString().equals(want.toString())) return;\n"
        + "  wrong++;\n"
        + "  System.out.println(call + \" answered \" + got + \", README.md says \" + want);\n"
        + "}\n";

    public static void main(String[] args) throws Exception {
        Path made = Files.createTempDirectory("spoon-readme");
        Path file = made.resolve("Page.java");
        Files.writeString(file, page(Files.readString(Path.of("README.md"))));
        String classes = System.getProperty("java.class.path");
        boolean fine = ToolProvider.getSystemJavaCompiler().run(null, null, null, "-cp", classes, "-d", made.toString(), file.toString()) == 0;
        if (fine) fine = answersAsSaid(made);
        try (Stream<Path> files = Files.list(made)) {
            for (Path p : files.toList()) Files.delete(p);
        }
        Files.delete(made);
        if (!fine) System.exit(1);
    }

    private static boolean answersAsSaid(Path made) throws Exception {
        try (URLClassLoader loader = new URLClassLoader(new URL[] {made.toUri().toURL()})) {
            int[] counts = (int[]) loader.loadClass("Page").getMethod("answered").invoke(null);
            System.out.println(counts[1] == 0 ? counts[0] + " calls on the page are as it says" : counts[1] + " calls on the page are not as it says");
            return counts[1] == 0 && counts[0] > 0;
        }
    }

    private static String page(String readme) {
        StringBuilder methods = new StringBuilder();
        StringBuilder body = new StringBuilder();
        Matcher block = BLOCK.matcher(readme);
        while (block.find()) {
            String code = block.group(1);
            if (code.startsWith("static ")) methods.append(code);
            else for (String line : code.split("\n")) body.append(compared(line)).append('\n');
        }
        return "public final class Page {\n" + DUE + methods + "public static int[] answered() {\n" + body + "return new int[] {calls, wrong};\n}\n}\n";
    }

    /** A line of the page as code that makes its call and compares the answer. */
    private static String compared(String line) {
        Matcher call = CALL.matcher(line);
        if (line.startsWith("SpoonScales court = ")) return line;
        if (!call.matches()) throw new IllegalStateException("a line without its answer: " + line);
        String shown = "\"" + call.group(2).replace("\"", "\\\"") + "\"";
        String kept = call.group(1) == null ? "" : "int " + call.group(1) + " = " + call.group(2) + ";";
        String got = call.group(1) == null ? call.group(2) : call.group(1);
        return kept + "due(" + shown + ", " + got + ", " + call.group(3) + ");";
    }
}
