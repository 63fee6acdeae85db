import java.io.IOException;
import java.lang.reflect.Method;
import java.lang.reflect.Modifier;
import java.nio.file.Files;
import java.nio.file.Path;
import java.util.TreeSet;
import java.util.regex.Matcher;
import java.util.regex.Pattern;

/** What of ../shared/LANGUAGE.md can be seen from the text of the class and from its face. */
public final class RulesTests {
    private static final String[] FORBIDDEN = {"\\bthrow\\b", "\\btry\\b", "\\bcatch\\b", "\\bsynchronized\\b",
        "\\bassert\\b", "\\bprotected\\b", "->", "::", "\\bimport\\b", "\\bpackage\\b", "static \\{", "\\bMath\\.\\w+Exact\\b",
        "\\bSystem\\.(?!arraycopy)", "\\bThread\\b", "\\bRandom\\b", "\\bequals\\b", "\\bhashCode\\b", "\\btoString\\b",
        "[^\\x00-\\x7f]"};
    private static int wrong = 0;

    private static void say(String what) {
        wrong++;
        System.out.println(what);
    }

    private static String withoutRemarks(String source) {
        return source.replaceAll("(?s)/\\*.*?\\*/", "").replaceAll("//.*", "").replaceAll("\"[^\"]*\"", "\"\"");
    }

    private static void words(String source) {
        for (String word : FORBIDDEN) {
            Matcher m = Pattern.compile(word).matcher(source);
            if (m.find()) say("the class has " + m.group());
        }
    }

    /** Rule 12 and the one room: only fields and constructors make anything. */
    private static void made(String source) {
        for (String line : source.split("\n")) {
            if (line.contains("new ") && !line.contains("final ") && !line.trim().startsWith("stories")) {
                say("made by a call: " + line.trim());
            }
        }
    }

    private static void methods(String source) {
        Matcher m = Pattern.compile("(?m)^( +)(?:\\w+(?:\\[\\])? )+(\\w+)\\(([^)]*)\\) \\{$").matcher(source);
        while (m.find()) {
            int end = source.indexOf("\n" + m.group(1) + "}\n", m.end());
            if (source.substring(m.start(), end).split("\n").length > 60) say("a long method: " + m.group(2));
            if (m.group(3).split(",").length > 7) say("many parameters: " + m.group(2));
        }
    }

    private static void face() {
        TreeSet<String> open = new TreeSet<>(), closed = new TreeSet<>();
        for (Method m : DrawnByLost.class.getDeclaredMethods()) {
            if (m.isSynthetic()) continue;
            (Modifier.isPublic(m.getModifiers()) ? open : closed).add(m.getName());
            if (!Modifier.isPublic(m.getModifiers()) && !Modifier.isPrivate(m.getModifiers())) say("visible: " + m);
        }
        if (open.size() != 29) say("public methods: " + open);
        for (Class<?> inside : DrawnByLost.class.getDeclaredClasses()) {
            if (!Modifier.isStatic(inside.getModifiers())) say("not static: " + inside);
            for (Method m : inside.getDeclaredMethods()) closed.add(m.getName());
            if (inside.getDeclaredFields().length > 20) say("many fields: " + inside);
        }
        for (String name : closed) if (open.contains(name)) say("a private method with a public name: " + name);
        if (DrawnByLost.class.getDeclaredClasses().length > 11) say("more than twelve classes");
    }

    public static void main(String[] args) throws IOException {
        String source = withoutRemarks(Files.readString(Path.of("src/main/java/DrawnByLost.java")));
        words(source);
        made(source);
        methods(source);
        face();
        System.out.println(wrong == 0 ? "the rules that can be seen are kept" : wrong + " rules are not kept");
        if (wrong != 0) System.exit(1);
    }
}
