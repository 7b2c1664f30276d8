import java.lang.reflect.Constructor;
import java.lang.reflect.Field;
import java.lang.reflect.Method;
import java.lang.reflect.Modifier;
import java.nio.file.Files;
import java.nio.file.Path;
import java.util.Set;
import java.util.TreeSet;
import java.util.regex.Matcher;
import java.util.regex.Pattern;

/** What of LANGUAGE.md and of the public face can be seen from the source's text and from the class itself. */
public final class LanguageRules {
    private static int wrong = 0;

    private static void must(boolean holds, String what) {
        if (!holds) {
            wrong++;
            System.out.println(what);
        }
    }

    private static final String[] FACE = {
        "feed(int,int,int,int,int)int", "end(int)int", "text(boolean)int", "fault()int", "refused()int", "day(int)int", "cash(int,int)int",
        "grace(int)int", "draw(int,int,int,int,int)int", "accept(int)int", "pass(int,int,int,int,boolean)int",
        "forge(int,int,int,int,boolean)int", "find(int,int)int", "defend(int,int,boolean)int", "present(int)int", "tell(int,int,int)int",
        "release(int,int)int", "pay(int,int)int", "count(int)int", "bill(int,int)int", "step(int,int,int)int", "party(int,int,int)int",
        "why(int,int,int,int)int", "liable(int)int", "reach(int)int", "run(int,int)int", "gains(int,int)int", "ends(int)int",
        "owes(int)int", "worth(int)int", "until(int,int)int", "sorts(int,int)int", "image(int)boolean", "again(int)boolean"};

    private static void face() {
        Set<String> due = new TreeSet<>(Set.of(FACE));
        Set<String> names = new TreeSet<>();
        for (String f : FACE) {
            names.add(f.substring(0, f.indexOf('(')));
        }
        Set<String> found = new TreeSet<>();
        for (Method m : BillRegistry.class.getDeclaredMethods()) {
            if (m.isSynthetic()) {
                continue;
            }
            if (Modifier.isPrivate(m.getModifiers())) {
                must(!names.contains(m.getName()), "rule 1: a private method is named " + m.getName());
                continue;
            }
            StringBuilder s = new StringBuilder(m.getName()).append('(');
            for (Class<?> c : m.getParameterTypes()) {
                s.append(s.charAt(s.length() - 1) == '(' ? "" : ",").append(c.getName());
            }
            found.add(s.append(')').append(m.getReturnType().getName()).toString());
            must(Modifier.isPublic(m.getModifiers()), "rule 1: not public: " + m);
        }
        must(found.equals(due), "the face is " + found);
        for (Field f : BillRegistry.class.getDeclaredFields()) {
            must(Modifier.isPrivate(f.getModifiers()) || f.getName().equals("NONE"), "rule 1: " + f);
        }
        Constructor<?>[] made = BillRegistry.class.getDeclaredConstructors();
        must(made.length == 1 && made[0].getParameterCount() == 0 && Modifier.isPublic(made[0].getModifiers()), "rule 1: the constructor");
        must(Modifier.isFinal(BillRegistry.class.getModifiers()), "rule 1: the class is not final");
        for (Class<?> c : BillRegistry.class.getDeclaredClasses()) {
            must(Modifier.isStatic(c.getModifiers()), "rule 2: not static: " + c);
            must(c.getDeclaredFields().length <= 45, "rule 11: too many fields: " + c);
            for (Method m : c.getDeclaredMethods()) {
                must(!names.contains(m.getName()), "rule 1: a method inside is named " + m);
                must(m.getParameterCount() <= 7, "rule 11: too many parameters: " + m);
            }
        }
        must(BillRegistry.class.getDeclaredClasses().length <= 12, "rule 11: too many classes");
    }

    private static void source(String text) {
        for (int i = 0; i < text.length(); i++) {
            must(text.charAt(i) < 128, "a sign above 127 in the source");
        }
        String code = text.replaceAll("(?s)/\\*.*?\\*/", "").replaceAll("//[^\n]*", "").replaceAll("\"[^\"]*\"", "\"\"").replaceAll("'[^']*'", "' '");
        String[] refused = {"\\bthrow\\b", "\\btry\\b", "\\bcatch\\b", "\\bsynchronized\\b", "\\bassert\\b", "->", "::", "\\bpackage\\b", "\\bprotected\\b",
            "\\bString\\[", "\\bvar\\b", "\\bdouble\\b", "\\bfloat\\b", "Exact\\b", "\\bMath\\.random", "\\bhashCode\\b", "\\btoString\\b", "\\bthis\\)",
            "\"\" *\\+", "\\+ *\"\"", "\\bwhile \\(true\\)", "\\bfor \\(;;\\)", "static \\{"};
        for (String r : refused) {
            must(!Pattern.compile(r).matcher(code).find(), "the source has " + r);
        }
        Matcher imports = Pattern.compile("import ([^;]*);").matcher(code);
        while (imports.find()) {
            must(Set.of("java.util.Arrays", "java.util.ArrayList", "java.util.List").contains(imports.group(1)), "rule 4: import " + imports.group(1));
        }
        Matcher statics = Pattern.compile("static (?!final)[\\w\\[\\]]+ \\w+( =|;)").matcher(code);
        must(!statics.find(), "rule 5: a static field that is not final");
        String[] lines = code.split("\n");
        int start = 0;
        for (int i = 0; i < lines.length; i++) {
            if (lines[i].matches(" {4}(?: {4})?[a-zA-Z].*\\) \\{")) {
                start = i;
            }
            must(!lines[i].matches(" {4}(?: {4})?\\}") || i - start <= 60 || !lines[start].contains("("), "rule 11: a long method ends at line " + (i + 1));
            if (lines[i].matches(" {4}\\}")) {
                start = i;
            }
        }
    }

    public static void main(String[] args) throws Exception {
        face();
        source(Files.readString(Path.of("src/main/java/BillRegistry.java")));
        System.out.println(wrong == 0 ? "the rules are kept" : wrong + " rules are not kept");
        if (wrong != 0) {
            System.exit(1);
        }
    }
}
