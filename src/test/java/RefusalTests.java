import java.util.ArrayList;
import java.util.LinkedHashMap;
import java.util.List;
import java.util.Map;
import java.util.TreeMap;
import java.util.function.Supplier;
import java.util.function.ToIntFunction;

/** Calls that are refused, and calls that ask only, change nothing that can be asked; of several refusals the first. */
public final class RefusalTests {
    private static final int BAD = Sentences.BAD, NO = Sentences.NO, FULL = Sentences.FULL, NONE = Sentences.NONE;
    private static final int MIN = Sentences.MIN, MAX = Sentences.MAX;

    /** Calls by the promise that they are of. */
    private static final class Calls {
        final Map<Integer, List<Sentences.Call>> byPromise = new TreeMap<>();

        void add(int promise, String name, ToIntFunction<DrawnByLost> on) {
            byPromise.computeIfAbsent(promise, p -> new ArrayList<>()).add(new Sentences.Call(name, on));
        }
    }

    /** As full as an object gets: of letters, walks, acts to be undone, kept ones. */
    private static DrawnByLost full() {
        DrawnByLost x = Sentences.laid(Sentences.LONG_TEXT);
        x.alter(3, 5);
        x.swap(0, 1);
        x.keep();
        x.strike(1);
        x.tell(1, 123);
        x.alter(4, 4);
        x.keep();
        x.tell(3, 55555);
        for (int p = 0; p < 6; p++) x.swap(p, (p + 1) % 6);
        return x;
    }

    /** As empty as an object gets: no letter, no walk; nothing undone, nothing kept. */
    private static DrawnByLost empty() {
        DrawnByLost x = new DrawnByLost();
        for (int w = 4; w >= 0; w--) x.strike(w);
        x.keep();
        x.back();
        return x;
    }

    private static DrawnByLost faulty() {
        DrawnByLost x = Sentences.written("d4,3;m11,5;w0050;m12,1;w101;");
        x.swap(2, 9);
        x.alter(0, 3);
        x.undo();
        x.keep();
        return x;
    }

    private static DrawnByLost small() {
        DrawnByLost x = Sentences.laid("d2,2;m0,1;m3,1;h0,9;w0101;w311;");
        x.wipe();
        Sentences.put(x, "d3,3;m8,1;");
        return x;
    }

    private static DrawnByLost great() {
        return Sentences.laid("d4,4;m15,1;m14,2;m3,5;h5,9;w012;w201234;w300;");
    }

    private static Map<String, Supplier<DrawnByLost>> scenes() {
        Map<String, Supplier<DrawnByLost>> all = new LinkedHashMap<>();
        all.put("a new one", DrawnByLost::new);
        all.put("a full one", RefusalTests::full);
        all.put("an empty one", RefusalTests::empty);
        all.put("one with a fault", RefusalTests::faulty);
        all.put("a small one", RefusalTests::small);
        all.put("a great one", RefusalTests::great);
        return all;
    }

    private static void badPlaces(Calls calls, int places) {
        for (int n : new int[] {-1, places, MIN, MAX}) {
            calls.add(6, "place " + n, d -> d.place(n, 0));
            calls.add(6, "sees " + n, d -> d.place(n, 1));
            calls.add(8, "swap " + n, d -> d.swap(n, 0));
            calls.add(8, "swap with " + n, d -> d.swap(0, n));
            calls.add(8, "swap alike " + n, d -> d.swap(n, n));
            calls.add(9, "alter " + n, d -> d.alter(n, 0));
            calls.add(18, "may " + n, d -> d.may(n));
            calls.add(20, "known " + n, d -> d.known(n, 0));
            calls.add(20, "known of how many " + n, d -> d.known(n, -1));
            calls.add(23, "road from " + n, d -> d.road(n, 0, 0));
            calls.add(23, "road to " + n, d -> d.road(0, n, 1));
            calls.add(23, "road from and to " + n, d -> d.road(n, n, 0));
        }
        for (int p = 0; p < places; p++) {
            int x = p;
            calls.add(8, "swap alike " + x, d -> d.swap(x, x));
        }
    }

    private static void badWalks(Calls calls, int walks) {
        for (int n : new int[] {-1, walks, MIN, MAX}) {
            calls.add(7, "walk " + n, d -> d.walk(n, 0));
            calls.add(7, "kind of walk " + n, d -> d.walk(n, -2));
            calls.add(7, "how many marks of walk " + n, d -> d.walk(n, -1));
            calls.add(7, "walk " + n + ", no such mark", d -> d.walk(n, 5));
            calls.add(11, "strike " + n, d -> d.strike(n));
            calls.add(13, "ways " + n, d -> d.ways(n));
            calls.add(14, "first " + n, d -> d.first(n, 0));
            calls.add(14, "first " + n + ", no such place", d -> d.first(n, 5));
            calls.add(15, "ends " + n, d -> d.ends(n));
            calls.add(21, "round " + n, d -> d.round(n));
            calls.add(22, "meet " + n, d -> d.meet(n, 0));
            calls.add(22, "meet with " + n, d -> d.meet(0, n));
            calls.add(25, "lost " + n, d -> d.lost(n, 0));
        }
        for (int n = 0; n < walks; n++) {
            int w = n;
            calls.add(22, "meet alike " + w, d -> d.meet(w, w));
            for (int k : new int[] {-3, MIN}) calls.add(7, "walk " + w + " " + k, d -> d.walk(w, k));
            for (int k : new int[] {-1, MIN}) calls.add(14, "first " + w + " " + k, d -> d.first(w, k));
            for (int k : new int[] {-1, 5, MIN, MAX}) calls.add(25, "lost " + w + " " + k, d -> d.lost(w, k));
        }
    }

    private static void badNumbers(Calls calls) {
        for (int n : new int[] {31, 127, 0, -1, 10, 128, 256 + 'd', MIN, MAX}) calls.add(2, "write " + n, d -> d.write(n));
        for (int n : new int[] {-1, 2, MIN, MAX}) {
            calls.add(6, "place what " + n, d -> d.place(0, n));
            calls.add(19, "moved " + n, d -> d.moved(n));
            calls.add(23, "road what " + n, d -> d.road(0, 1, n));
            calls.add(26, "huts " + n, d -> d.huts(n));
            calls.add(27, "flood what " + n, d -> d.flood(0, 1, n));
        }
        for (int n : new int[] {-1, 6, MIN, MAX}) {
            calls.add(9, "alter to " + n, d -> d.alter(0, n));
            calls.add(30, "count " + n, d -> d.count(n));
        }
        for (int n : new int[] {-1, 4, MIN, MAX}) calls.add(10, "tell kind " + n, d -> d.tell(n, 11));
        for (int n : new int[] {10, 66667, 17, 71, 101, 110, 171, 1101, 10111, 61117, 0, 1, 6, -11, -1, 111111, 7, MIN, MAX}) {
            calls.add(10, "tell " + n, d -> d.tell(0, n));
        }
        for (int n : new int[] {-2, 4, MIN, MAX}) calls.add(20, "known k " + n, d -> d.known(0, n));
        for (int n : new int[] {-1, 10000, MIN, MAX}) calls.add(27, "flood by " + n, d -> d.flood(n, 1, 0));
        for (int n : new int[] {0, 41, -1, MIN, MAX}) calls.add(27, "flood of " + n, d -> d.flood(0, n, 0));
    }

    private static Calls badCalls(DrawnByLost x) {
        Calls calls = new Calls();
        badPlaces(calls, x.count(0));
        badWalks(calls, x.count(2));
        badNumbers(calls);
        return calls;
    }

    private static void bad() {
        Map<String, Supplier<DrawnByLost>> scenes = scenes();
        for (int promise : badCalls(new DrawnByLost()).byPromise.keySet()) {
            Sentences.sentence(promise, "BAD: a number is none that is told (PLACES, MARKS, WALKS: such as there are).", () ->
                scenes.forEach((name, made) -> {
                    for (Sentences.Call call : badCalls(made.get()).byPromise.get(promise)) {
                        Sentences.changesNothing(made, name + ": " + call.name(), call.on(), BAD);
                    }
                }));
        }
    }

    /** A test of its own for one call on objects that are made alike, that is refused so and changes nothing. */
    private static void refused(int promise, String words, Supplier<DrawnByLost> made, String name,
            ToIntFunction<DrawnByLost> call, int want) {
        Sentences.sentence(promise, words, () -> Sentences.changesNothing(made, name, call, want));
    }

    private static void no() {
        String words = "NO: not as things stand.";
        refused(5, words, DrawnByLost::new, "lay of no text", d -> d.lay(), NO);
        refused(5, words, RefusalTests::faulty, "lay of a text with a fault", d -> d.lay(), NO);
        refused(5, words, RefusalTests::small, "lay of a text without a walk", d -> d.lay(), NO);
        refused(12, words, DrawnByLost::new, "undo behind nothing", d -> d.undo(), NO);
        refused(12, words, RefusalTests::empty, "undo behind back", d -> d.undo(), NO);
        refused(12, words, RefusalTests::small, "undo behind lay", d -> d.undo(), NO);
        refused(29, words, DrawnByLost::new, "back to nothing", d -> d.back(), NO);
        refused(29, words, RefusalTests::empty, "back behind back", d -> d.back(), NO);
        refused(29, words, RefusalTests::small, "back behind lay", d -> d.back(), NO);
        refused(25, words, DrawnByLost::new, "lost of a turned one", d -> d.lost(1, 0), NO);
        refused(25, words, RefusalTests::great, "lost of a hungry one", d -> d.lost(1, 4), NO);
        refused(25, words, DrawnByLost::new, "lost of a liar", d -> d.lost(3, 1), NO);
        refused(25, words, DrawnByLost::new, "lost of too few marks", d -> d.lost(0, 3), NO);
    }

    private static void fullOnes() {
        refused(2, "FULL.", RefusalTests::full, "write", d -> d.write(';'), FULL);
        refused(10, "FULL.", RefusalTests::full, "tell", d -> d.tell(0, 11), FULL);
        refused(10, "FULL.", DrawnByLost::new, "tell to five", d -> d.tell(2, 66666), FULL);
        refused(28, "FULL.", RefusalTests::full, "keep", d -> d.keep(), FULL);
    }

    private static void none() {
        String words = "NONE: there is none.";
        refused(4, words, DrawnByLost::new, "fault of nothing", d -> d.fault(), NONE);
        refused(4, words, RefusalTests::full, "fault of a full text", d -> d.fault(), NONE);
        refused(7, words, DrawnByLost::new, "a fourth mark of three", d -> d.walk(0, 3), NONE);
        refused(14, words, DrawnByLost::new, "a fourth place of three", d -> d.first(0, 3), NONE);
        refused(14, words, DrawnByLost::new, "first of none", d -> d.first(2, 0), NONE);
        refused(19, words, RefusalTests::full, "no two to be swapped", d -> d.moved(1), NONE);
        refused(20, words, RefusalTests::small, "no marks for a corner", d -> d.known(0, -1), NONE);
        refused(27, words, RefusalTests::empty, "no flood behind which one lies", d -> d.flood(5, 40, 1), NONE);
    }

    /** Each call fits two refusals: BAD stands ahead of NO, NONE, FULL. */
    private static void ofSeveral() {
        String words = "Of several the first; nothing changes then.";
        refused(2, words, RefusalTests::full, "a bad letter into a full text", d -> d.write(31), BAD);
        refused(10, words, RefusalTests::full, "a bad kind of a sixth walk", d -> d.tell(4, 11), BAD);
        refused(10, words, RefusalTests::full, "bad marks of a sixth walk", d -> d.tell(0, 107), BAD);
        refused(25, words, DrawnByLost::new, "a turned one, five times", d -> d.lost(1, 5), BAD);
        refused(25, words, DrawnByLost::new, "too few marks, five times", d -> d.lost(0, 5), BAD);
        refused(25, words, DrawnByLost::new, "a turned one, -1 times", d -> d.lost(1, -1), BAD);
        refused(7, words, DrawnByLost::new, "no walk, and it has no such mark", d -> d.walk(5, 9), BAD);
        refused(14, words, DrawnByLost::new, "no walk, and it has no such place", d -> d.first(5, 9), BAD);
        refused(14, words, DrawnByLost::new, "place -1 of a walk that lies nowhere", d -> d.first(2, -1), BAD);
        refused(20, words, RefusalTests::small, "mark 4 of none", d -> d.known(0, 4), BAD);
        refused(27, words, RefusalTests::empty, "a bad flood behind which none lies", d -> d.flood(5, 41, 1), BAD);
    }

    /** Only write, wipe, lay, the acts, keep, back change anything: a flood, a swap that is thought of are none. */
    private static void asked() {
        Sentences.sentence(18, "MARKS (bits) by which, were it of that, nobody would have LIED.", () -> asked(Sentences.walkQuestions()));
        Sentences.sentence(27, "A FLOOD by z (0 to 9999) of n (1 to 40) weeks from now on:", () -> asked(Sentences.roadQuestions()));
    }

    private static void asked(List<Sentences.Call> questions) {
        scenes().forEach((name, made) -> {
            String answers = Sentences.answers(made.get(), questions);
            DrawnByLost twice = made.get();
            Sentences.answers(twice, questions.subList(0, 40));
            Sentences.same(name + " asked twice", Sentences.answers(twice, questions), answers);
            Sentences.changesNothing(made, name + " asked", d -> Sentences.answers(d, questions).isEmpty() ? 1 : 0, 0);
        });
    }

    public static void main(String[] args) {
        bad();
        no();
        fullOnes();
        none();
        ofSeveral();
        asked();
        Sentences.end();
    }
}
