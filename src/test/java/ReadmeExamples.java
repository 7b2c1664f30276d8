import java.lang.reflect.Method;
import java.net.URL;
import java.net.URLClassLoader;
import java.nio.file.Files;
import java.nio.file.Path;
import java.util.ArrayList;
import java.util.List;
import java.util.regex.Matcher;
import java.util.regex.Pattern;
import javax.tools.ToolProvider;

/** Compiles the examples of README.md and runs them: each call must answer what stands behind it. */
public final class ReadmeExamples {
    private static final Pattern EXAMPLE = Pattern.compile("(?s)```java\n(.*?)```");
    private static final Pattern CALL = Pattern.compile("(?m)^r\\.(.*?); +// (true|false|-?[0-9]+)\\b.*$");

    private static int wrong = 0;

    private static void must(boolean holds, String what) {
        if (!holds) {
            wrong++;
            System.out.println(what);
        }
    }

    /** The examples as the body of a class, each in a method of its own that lists the calls that answer wrongly. */
    private static String program(List<String> examples) {
        StringBuilder s = new StringBuilder("public final class Examples {\n static java.util.List<String> wrong = new java.util.ArrayList<>();\n");
        s.append(" static void due(String call, Object got, Object want) { if (!got.equals(want)) wrong.add(call + \" answers \" + got); }\n");
        for (int i = 0; i < examples.size(); i++) {
            String body = CALL.matcher(examples.get(i)).replaceAll(m ->
                    Matcher.quoteReplacement("due(\"" + m.group(1) + "\", r." + m.group(1) + ", " + m.group(2) + ");"));
            s.append(" static void example").append(i).append("() {\n").append(body).append(" }\n");
        }
        s.append(" public static java.util.List<String> run() {\n");
        for (int i = 0; i < examples.size(); i++) {
            s.append("  example").append(i).append("();\n");
        }
        return s.append("  return wrong;\n }\n}\n").toString();
    }

    private static void examples(String readme) throws Exception {
        List<String> examples = new ArrayList<>();
        for (Matcher m = EXAMPLE.matcher(readme); m.find(); ) {
            examples.add(m.group(1));
            must(CALL.matcher(m.group(1)).find(), "an example tells no answer");
        }
        must(!examples.isEmpty(), "README.md has no example");
        Path dir = Files.createTempDirectory("readme");
        Path source = dir.resolve("Examples.java");
        Files.writeString(source, program(examples));
        String[] options = {"-cp", System.getProperty("java.class.path"), "-d", dir.toString(), source.toString()};
        must(ToolProvider.getSystemJavaCompiler().run(null, null, null, options) == 0, "the examples do not compile");
        if (wrong == 0) {
            try (URLClassLoader loader = new URLClassLoader(new URL[] {dir.toUri().toURL()})) {
                for (Object answer : (List<?>) loader.loadClass("Examples").getMethod("run").invoke(null)) {
                    must(false, "README.md: " + answer);
                }
            }
        }
        for (String file : new String[] {"Examples.class", "Examples.java"}) {
            Files.deleteIfExists(dir.resolve(file));
        }
        Files.delete(dir);
    }

    public static void main(String[] args) throws Exception {
        String readme = Files.readString(Path.of("README.md"));
        examples(readme);
        for (Method m : BillRegistry.class.getMethods()) {
            if (m.getDeclaringClass() == BillRegistry.class) {
                must(readme.contains("`" + m.getName() + "`"), "README.md does not name " + m.getName());
            }
        }
        try (var tests = Files.list(Path.of("src/test/java"))) {
            tests.forEach(t -> must(readme.contains(t.getFileName().toString()), "README.md does not name the test " + t));
        }
        System.out.println(wrong == 0 ? "the examples hold" : wrong + " things do not hold");
        if (wrong != 0) {
            System.exit(1);
        }
    }
}
