import java.io.IOException;
import java.lang.reflect.Constructor;
import java.lang.reflect.Field;
import java.lang.reflect.Method;
import java.lang.reflect.Modifier;
import java.nio.file.DirectoryStream;
import java.nio.file.Files;
import java.nio.file.Path;
import java.util.Arrays;
import java.util.Set;
import java.util.TreeSet;
import java.util.regex.Matcher;
import java.util.regex.Pattern;

/** The class has the document's face, and each sentence of Terms and promises is named by a test. */
public final class DocumentTests {
    private static final Path DOCUMENT = Path.of("../shared/DOC.md");
    private static final Path SOURCE = Path.of("src/main/java/DrawnByLost.java");
    private static int wrong = 0;

    private static void say(String what) {
        wrong++;
        System.out.println(what);
    }

    private static String between(String text, String from, String to) {
        int begin = text.indexOf(from) + from.length();
        return text.substring(begin, text.indexOf(to, begin));
    }

    private static String kinds(Class<?>[] types) {
        return Arrays.toString(types).replaceAll("[\\[\\]]", "");
    }

    /** The public members of the class, written as the document's face has them but for the parameters' names. */
    private static Set<String> membersOfTheClass() throws IllegalAccessException {
        Set<String> members = new TreeSet<>();
        for (Constructor<?> c : DrawnByLost.class.getConstructors()) {
            members.add("public DrawnByLost(" + kinds(c.getParameterTypes()) + ")");
        }
        for (Method m : DrawnByLost.class.getDeclaredMethods()) {
            if (!Modifier.isPublic(m.getModifiers())) continue;
            String how = Modifier.toString(m.getModifiers()) + " " + m.getReturnType();
            members.add(how + " " + m.getName() + "(" + kinds(m.getParameterTypes()) + ")");
        }
        for (Field f : DrawnByLost.class.getFields()) {
            String how = Modifier.toString(f.getModifiers()) + " " + f.getType();
            members.add(how + " " + f.getName() + " = " + f.getInt(null));
        }
        return members;
    }

    private static Set<String> membersOfTheDocument(String face) {
        Set<String> members = new TreeSet<>();
        for (String row : face.split("\n")) {
            String member = row.trim().replace(";", "").replaceAll("int \\w+(?=[,)])", "int");
            if (!member.startsWith("public ") || member.endsWith("{")) continue;
            int list = member.indexOf("int ") + 4;
            if (!member.contains(" = ")) members.add(member);
            else for (String one : member.substring(list).split(", ")) members.add(member.substring(0, list) + one);
        }
        return members;
    }

    private static void face(String document, String source) throws IllegalAccessException {
        String face = between(document, "```java", "```");
        Set<String> due = membersOfTheDocument(face), got = membersOfTheClass();
        if (due.size() != 34) say("the document's face has " + due.size() + " members");
        if (!due.equals(got)) say("the face is " + got + ", due is " + due);
        if (Modifier.toString(DrawnByLost.class.getModifiers()).equals("public final")) {
            for (String row : face.split("\n")) {
                String head = row.trim().replace(";", "");
                if (head.startsWith("public") && !source.contains(head)) say("not in the class: " + head);
            }
        } else {
            say("the class is not public and final");
        }
    }

    /** What the interface says ahead of its calls stands ahead of them in the class, too. */
    private static void heads(String document, String source) {
        Matcher m = Pattern.compile("Ahead of the calls (.*?) the interface says: (---- \\w+)\\.").matcher(document);
        int last = -1, heads = 0;
        while (m.find()) {
            heads++;
            int at = source.indexOf(m.group(2));
            if (at <= last) say("not in its place: " + m.group(2));
            last = Math.max(at, last);
            for (String call : m.group(1).replace("`", "").split(", ")) {
                int stands = source.indexOf("public int " + call + "(");
                if (stands <= last) say(call + " does not stand behind " + m.group(2));
                last = Math.max(stands, last);
            }
        }
        if (heads != 5) say(heads + " heads in the document");
    }

    private static String folded(String text) {
        return text.replaceAll("\\s+", " ");
    }

    /** The words of all tests of sentences, as they stand in the tests' own texts. */
    private static Set<String> wordsOfTests(Set<Integer> promises) throws IOException {
        Set<String> words = new TreeSet<>();
        try (DirectoryStream<Path> tests = Files.newDirectoryStream(Path.of("src/test/java"), "*Tests.java")) {
            for (Path test : tests) {
                String text = Files.readString(test);
                Matcher named = Pattern.compile("(?:sentence\\(\\w+, |refused\\(\\d+, |words = )\"([^\"]+)\"").matcher(text);
                while (named.find()) words.add(named.group(1));
                Matcher numbered = Pattern.compile("sentence\\((\\d+), ").matcher(text);
                while (numbered.find()) promises.add(Integer.valueOf(numbered.group(1)));
            }
        }
        return words;
    }

    private static void sentences(String document) throws IOException {
        String rows = between(document, "## Terms", "## Not promised").replaceAll("(?m)^Ahead of the calls.*$", "")
            .replaceAll("(?m)^## Promise.*$", "").replaceAll("(?m)^```.*$", "").replaceAll("(?m)^======== \\d", "");
        char[] left = folded(rows).toCharArray();
        String all = new String(left);
        Set<Integer> promises = new TreeSet<>();
        for (String words : wordsOfTests(promises)) {
            for (int at = all.indexOf(words); at >= 0; at = all.indexOf(words, at + 1)) {
                Arrays.fill(left, at, at + words.length(), '|');
            }
        }
        for (String rest : new String(left).split("\\|+")) {
            if (rest.matches(".*\\w.*")) say("no test names: " + rest);
        }
        for (int promise = 1; promise <= 30; promise++) {
            if (!promises.contains(promise)) say("no test of a sentence of promise " + promise);
        }
    }

    public static void main(String[] args) throws Exception {
        String document = Files.readString(DOCUMENT), source = Files.readString(SOURCE);
        face(document, source);
        heads(document, source);
        sentences(document);
        System.out.println(wrong == 0 ? "the face is the document's, each sentence has a test" : wrong + " things are not so");
        if (wrong != 0) System.exit(1);
    }
}
