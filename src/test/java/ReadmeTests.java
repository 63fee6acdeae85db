import java.io.IOException;
import java.lang.reflect.Field;
import java.lang.reflect.Method;
import java.lang.reflect.Modifier;
import java.nio.file.DirectoryStream;
import java.nio.file.Files;
import java.nio.file.Path;
import java.util.HashMap;
import java.util.Map;
import java.util.regex.Matcher;
import java.util.regex.Pattern;

/** What README.md says: its examples are answered so, and it names each call, each constant and each test. */
public final class ReadmeTests {
    private static final Pattern TEXT = Pattern.compile("for \\(char letter : \"(.*)\"\\.toCharArray\\(\\)\\) x\\.write\\(letter\\);");
    private static final Pattern CALL = Pattern.compile("x\\.(\\w+)\\((.*?)\\); +// (-?\\d+)(?::.*)?");
    private static int wrong = 0;

    private static void say(String what) {
        wrong++;
        System.out.println(what);
    }

    private static Map<String, Method> calls() {
        Map<String, Method> calls = new HashMap<>();
        for (Method m : DrawnByLost.class.getDeclaredMethods()) {
            if (Modifier.isPublic(m.getModifiers())) calls.put(m.getName(), m);
        }
        return calls;
    }

    private static Object[] numbers(String list) {
        if (list.isEmpty()) return new Object[0];
        String[] told = list.split(", ");
        Object[] numbers = new Object[told.length];
        for (int i = 0; i < told.length; i++) {
            boolean letter = told[i].startsWith("'");
            numbers[i] = letter ? (int) told[i].charAt(1) : Integer.parseInt(told[i]);
        }
        return numbers;
    }

    private static void example(String rows) throws ReflectiveOperationException {
        DrawnByLost x = new DrawnByLost();
        for (String row : rows.trim().split("\n")) {
            Matcher text = TEXT.matcher(row), call = CALL.matcher(row);
            if (row.equals("DrawnByLost x = new DrawnByLost();")) {
                x = new DrawnByLost();
            } else if (text.matches()) {
                for (char letter : text.group(1).toCharArray()) x.write(letter);
            } else if (call.matches()) {
                Object got = calls().get(call.group(1)).invoke(x, numbers(call.group(2)));
                if (!got.toString().equals(call.group(3))) say(row + " is answered by " + got);
            } else {
                say("an example that is not tested: " + row);
            }
        }
    }

    private static void examples(String readme) throws ReflectiveOperationException {
        Matcher block = Pattern.compile("(?s)```java\n(.*?)```").matcher(readme);
        int blocks = 0;
        while (block.find()) {
            blocks++;
            example(block.group(1));
        }
        if (blocks == 0) say("there are no examples");
    }

    /** Each call as the document's face has it, without the kinds of its numbers. */
    private static void callsNamed(String readme, String document) {
        Matcher m = Pattern.compile("public int (\\w+\\([^)]*\\));").matcher(document);
        int named = 0;
        while (m.find()) {
            named++;
            String call = "| `" + m.group(1).replace("int ", "") + "` |";
            if (!readme.contains(call)) say("README.md does not tell of " + call);
        }
        if (named != calls().size()) say(named + " calls in the document, " + calls().size() + " in the class");
    }

    private static void constantsNamed(String readme) throws IllegalAccessException {
        for (Field f : DrawnByLost.class.getFields()) {
            String told = "`" + f.getName() + "` = " + f.getInt(null);
            if (!readme.contains(told)) say("README.md does not tell " + told);
        }
    }

    private static void testsNamed(String readme) throws IOException {
        try (DirectoryStream<Path> tests = Files.newDirectoryStream(Path.of("src/test/java"), "*Tests.java")) {
            for (Path test : tests) {
                String row = "| `" + test.getFileName().toString().replace(".java", "") + "` |";
                if (!readme.contains(row)) say("README.md does not tell of the test " + row);
            }
        }
        if (!readme.contains("    .ci/run\n")) say("README.md does not tell the command of the tests");
    }

    public static void main(String[] args) throws Exception {
        String readme = Files.readString(Path.of("README.md"));
        String document = Files.readString(Path.of("../shared/DOC.md"));
        examples(readme);
        callsNamed(readme, document);
        constantsNamed(readme);
        testsNamed(readme);
        System.out.println(wrong == 0 ? "README.md tells what is so" : wrong + " things in README.md are not so");
        if (wrong != 0) System.exit(1);
    }
}
