import java.io.IOException;
import java.nio.file.Files;
import java.nio.file.Path;
import java.util.ArrayList;
import java.util.List;
import java.util.function.Supplier;
import java.util.function.ToIntFunction;

/** What the tests of single sentences share: each test is named by its promise and by words of the document. */
final class Sentences {
    static final int BAD = -1, NO = -2, FULL = -3, NONE = -4;
    static final int MIN = Integer.MIN_VALUE, MAX = Integer.MAX_VALUE;
    /** 200 letters: there is no room for one more. */
    static final String LONG_TEXT = "d2,3;m1,1;m2,2;h2,7;w012;w1210;w2012;w3000;" + "m0,2;m0,5;m0,0;".repeat(10) + "m05,03;";

    private static int wrong = 0;
    private static int sentences = 0;
    private static String named = "";
    private static String document = "";

    private Sentences() { }

    /** A test of its own for these words, which must stand in the document. */
    static void sentence(int promise, String words, Runnable test) {
        named = "promise " + promise + ", '" + words + "'";
        sentences++;
        if (!document().contains(words)) say("these words do not stand in the document");
        test.run();
    }

    private static String document() {
        if (document.isEmpty()) {
            try {
                document = Files.readString(Path.of("../shared/DOC.md")).replaceAll("\\s+", " ");
            } catch (IOException e) {
                throw new IllegalStateException("no document at ../shared/DOC.md", e);
            }
        }
        return document;
    }

    static void say(String what) {
        if (wrong++ < 60) System.out.println(named + ": " + what);
    }

    static void due(String call, int got, int want) {
        if (got != want) say(call + " answered " + got + ", due is " + want);
    }

    static void same(String what, String got, String want) {
        if (!got.equals(want)) say(what + " is " + got + ", due is " + want);
    }

    static void end() {
        System.out.println(sentences + " sentences, " + (wrong == 0 ? "all hold" : wrong + " answers are not as due"));
        if (wrong != 0) System.exit(1);
    }

    static void put(DrawnByLost x, String text) {
        for (char letter : text.toCharArray()) x.write(letter);
    }

    static DrawnByLost written(String text) {
        DrawnByLost x = new DrawnByLost();
        put(x, text);
        due("count(5) behind " + text, x.count(5), text.length());
        return x;
    }

    static DrawnByLost laid(String text) {
        DrawnByLost x = written(text);
        due("fault() of " + text, x.fault(), NONE);
        if (x.lay() < 0) say("not laid: " + text);
        return x;
    }

    /** Where the fault of this text is; it is laid if it has none and a walk, and is not laid else. */
    static void faultDue(String text, int want) {
        DrawnByLost x = written(text);
        due("fault() of " + text, x.fault(), want);
        boolean lays = want == NONE && text.contains("w");
        due("whether it is laid: " + text, x.lay() == NO ? 0 : 1, lays ? 1 : 0);
    }

    static String marks(DrawnByLost x) {
        StringBuilder s = new StringBuilder();
        for (int p = 0; p < x.count(0); p++) s.append(x.place(p, 0));
        return s.toString();
    }

    /** The walks as in THE TEXT. */
    static String walks(DrawnByLost x) {
        StringBuilder s = new StringBuilder();
        for (int w = 0; w < x.count(2); w++) {
            s.append('w').append(x.walk(w, -2));
            for (int k = 0; k < x.walk(w, -1); k++) s.append(x.walk(w, k));
            s.append(';');
        }
        return s.toString();
    }

    private static String state(DrawnByLost x) {
        StringBuilder s = new StringBuilder(marks(x) + " " + walks(x));
        for (int n = 0; n < 6; n++) s.append(' ').append(x.count(n));
        return s.toString();
    }

    /** All that can be asked of objects that are made alike, by a new one for each 512 calls at most. */
    static List<String> look(Supplier<DrawnByLost> made) {
        List<String> all = new ArrayList<>();
        all.add(state(made.get()));
        all.add(answers(made.get(), walkQuestions()));
        all.add(answers(made.get(), roadQuestions()));
        for (int many = 1; many <= 9; many++) {
            DrawnByLost x = made.get();
            int last = 0;
            for (int i = 0; i < many; i++) last = x.undo();
            all.add("undo " + many + ": " + last + " " + state(x));
        }
        for (int many = 1; many <= 3; many++) {
            DrawnByLost x = made.get();
            int last = 0;
            for (int i = 0; i < many; i++) last = x.back();
            all.add("back " + many + ": " + last + " " + state(x));
        }
        DrawnByLost x = made.get();
        all.add("laid: " + x.fault() + " " + x.lay() + " " + state(x) + " " + x.wipe());
        DrawnByLost y = made.get();
        all.add("written on: " + y.write(';') + " " + y.fault() + " " + y.wipe() + " " + y.fault() + " " + state(y));
        return all;
    }

    /** A call, and how it is named. */
    record Call(String name, ToIntFunction<DrawnByLost> on) { }

    static String answers(DrawnByLost x, List<Call> calls) {
        StringBuilder s = new StringBuilder();
        for (Call call : calls) s.append(call.name).append('=').append(call.on.applyAsInt(x)).append(' ');
        return s.toString();
    }

    static void add(List<Call> calls, String name, ToIntFunction<DrawnByLost> on) {
        calls.add(new Call(name, on));
    }

    /** Calls that ask only, of marks and walks; some of them are refused where there are fewer places, walks. */
    static List<Call> walkQuestions() {
        List<Call> calls = new ArrayList<>();
        for (int n = 0; n < 16; n++) {
            int x = n;
            add(calls, "sees " + x, d -> d.place(x, 1));
            add(calls, "may " + x, d -> d.may(x));
        }
        for (int n = 0; n < 5; n++) {
            int w = n;
            add(calls, "ways " + w, d -> d.ways(w));
            add(calls, "ends " + w, d -> d.ends(w));
            add(calls, "round " + w, d -> d.round(w));
            for (int i = 0; i < 5; i++) {
                int k = i;
                add(calls, "first " + w + " " + k, d -> d.first(w, k));
                add(calls, "lost " + w + " " + k, d -> d.lost(w, k));
                add(calls, "meet " + w + " " + k, d -> d.meet(w, k));
            }
        }
        add(calls, "lied", d -> d.lied());
        add(calls, "nobody", d -> d.nobody());
        add(calls, "moved 0", d -> d.moved(0));
        add(calls, "moved 1", d -> d.moved(1));
        return calls;
    }

    static List<Call> roadQuestions() {
        List<Call> calls = new ArrayList<>();
        for (int n = 0; n < 16; n++) {
            int x = n;
            for (int what = 0; what < 2; what++) {
                int asked = what;
                add(calls, "road to 0 " + x + " " + what, d -> d.road(x, 0, asked));
                add(calls, "road to 3 " + x + " " + what, d -> d.road(x, 3, asked));
            }
            for (int i = -1; i < 4; i++) {
                int k = i;
                add(calls, "known " + x + " " + k, d -> d.known(x, k));
            }
        }
        for (int what = 0; what < 2; what++) {
            int asked = what;
            add(calls, "huts " + what, d -> d.huts(asked));
            add(calls, "flood of one " + what, d -> d.flood(17, 1, asked));
            add(calls, "flood of 40 " + what, d -> d.flood(9999, 40, asked));
        }
        add(calls, "fear", d -> d.fear());
        add(calls, "fault", d -> d.fault());
        return calls;
    }

    /** The call is answered so, and all that can be asked behind it is as without it. */
    static void changesNothing(Supplier<DrawnByLost> made, String name, ToIntFunction<DrawnByLost> call, int want) {
        due(name, call.applyAsInt(made.get()), want);
        List<String> without = look(made);
        List<String> with = look(() -> {
            DrawnByLost x = made.get();
            call.applyAsInt(x);
            return x;
        });
        for (int i = 0; i < without.size(); i++) same("behind " + name + " it", with.get(i), without.get(i));
    }
}
