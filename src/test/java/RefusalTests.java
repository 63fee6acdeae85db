import java.util.ArrayList;
import java.util.LinkedHashMap;
import java.util.List;
import java.util.Map;
import java.util.function.Supplier;

/** Calls that are refused, and calls that ask only, change nothing that can be asked; of several refusals the first. */
public final class RefusalTests {
    private static final int BAD = Sentences.BAD, NO = Sentences.NO, FULL = Sentences.FULL, NONE = Sentences.NONE;
    private static final int MIN = Sentences.MIN, MAX = Sentences.MAX;

    /** As full as an object gets: of letters, walks, acts to be undone, kept ones. */
    private static DrawnByLost full() {
        DrawnByLost x = Sentences.laid(Sentences.LONG_TEXT);
        x.alter(3, 5);
        x.swap(0, 1);
        x.keep();
        x.strike(1);
        x.tell(1, 123);
        x.alter(4, 4);
        x.keep();
        x.tell(3, 55555);
        for (int p = 0; p < 6; p++) x.swap(p, (p + 1) % 6);
        return x;
    }

    /** As empty as an object gets: no letter, no walk; nothing undone, nothing kept. */
    private static DrawnByLost empty() {
        DrawnByLost x = new DrawnByLost();
        for (int w = 4; w >= 0; w--) x.strike(w);
        x.keep();
        x.back();
        return x;
    }

    private static DrawnByLost faulty() {
        DrawnByLost x = Sentences.written("d4,3;m11,5;w0050;m12,1;w101;");
        x.swap(2, 9);
        x.alter(0, 3);
        x.undo();
        x.keep();
        return x;
    }

    private static DrawnByLost small() {
        DrawnByLost x = Sentences.laid("d2,2;m0,1;m3,1;h0,9;w0101;w311;");
        x.wipe();
        Sentences.put(x, "d3,3;m8,1;");
        return x;
    }

    private static Map<String, Supplier<DrawnByLost>> scenes() {
        Map<String, Supplier<DrawnByLost>> all = new LinkedHashMap<>();
        all.put("a new one", DrawnByLost::new);
        all.put("a full one", RefusalTests::full);
        all.put("an empty one", RefusalTests::empty);
        all.put("one with a fault", RefusalTests::faulty);
        all.put("a small one", RefusalTests::small);
        return all;
    }

    private static void badPlaces(List<Sentences.Call> calls, int places) {
        for (int n : new int[] {-1, places, MIN, MAX}) {
            Sentences.add(calls, "place " + n, d -> d.place(n, 0));
            Sentences.add(calls, "sees " + n, d -> d.place(n, 1));
            Sentences.add(calls, "swap " + n, d -> d.swap(n, 0));
            Sentences.add(calls, "swap with " + n, d -> d.swap(0, n));
            Sentences.add(calls, "swap alike " + n, d -> d.swap(n, n));
            Sentences.add(calls, "alter " + n, d -> d.alter(n, 0));
            Sentences.add(calls, "may " + n, d -> d.may(n));
            Sentences.add(calls, "known " + n, d -> d.known(n, 0));
            Sentences.add(calls, "road from " + n, d -> d.road(n, 0, 0));
            Sentences.add(calls, "road to " + n, d -> d.road(0, n, 1));
            Sentences.add(calls, "road from and to " + n, d -> d.road(n, n, 0));
        }
        for (int p = 0; p < places; p++) {
            int x = p;
            Sentences.add(calls, "swap alike " + x, d -> d.swap(x, x));
        }
    }

    private static void badWalks(List<Sentences.Call> calls, int walks) {
        for (int n : new int[] {-1, walks, MIN, MAX}) {
            Sentences.add(calls, "walk " + n, d -> d.walk(n, 0));
            Sentences.add(calls, "kind of walk " + n, d -> d.walk(n, -2));
            Sentences.add(calls, "marks of walk " + n, d -> d.walk(n, -1));
            Sentences.add(calls, "walk " + n + ", no mark", d -> d.walk(n, 5));
            Sentences.add(calls, "strike " + n, d -> d.strike(n));
            Sentences.add(calls, "ways " + n, d -> d.ways(n));
            Sentences.add(calls, "first " + n, d -> d.first(n, 0));
            Sentences.add(calls, "ends " + n, d -> d.ends(n));
            Sentences.add(calls, "round " + n, d -> d.round(n));
            Sentences.add(calls, "meet " + n, d -> d.meet(n, 0));
            Sentences.add(calls, "meet with " + n, d -> d.meet(0, n));
            Sentences.add(calls, "lost " + n, d -> d.lost(n, 0));
        }
        for (int n = 0; n < walks; n++) {
            int w = n;
            Sentences.add(calls, "meet alike " + w, d -> d.meet(w, w));
        }
    }

    private static void badNumbers(List<Sentences.Call> calls) {
        for (int n : new int[] {-1, 2, MIN, MAX}) {
            Sentences.add(calls, "place what " + n, d -> d.place(0, n));
            Sentences.add(calls, "moved " + n, d -> d.moved(n));
            Sentences.add(calls, "road what " + n, d -> d.road(0, 1, n));
            Sentences.add(calls, "huts " + n, d -> d.huts(n));
            Sentences.add(calls, "flood what " + n, d -> d.flood(0, 1, n));
        }
        for (int n : new int[] {-1, 6, MIN, MAX}) {
            Sentences.add(calls, "alter to " + n, d -> d.alter(0, n));
            Sentences.add(calls, "count " + n, d -> d.count(n));
        }
        for (int n : new int[] {31, 127, 0, -1, 10, 128, 256 + 'd', MIN, MAX}) {
            Sentences.add(calls, "write " + n, d -> d.write(n));
        }
        for (int n : new int[] {-1, 4, MIN, MAX}) Sentences.add(calls, "tell kind " + n, d -> d.tell(n, 11));
        for (int n : new int[] {10, 66667, 17, 71, 101, 110, 171, 1101, 10111, 61117, 0, 1, 6, -11, -1, 111111, 7, MIN, MAX}) {
            Sentences.add(calls, "tell " + n, d -> d.tell(0, n));
        }
        for (int n : new int[] {-2, 4, MIN, MAX}) Sentences.add(calls, "known k " + n, d -> d.known(0, n));
        for (int n : new int[] {-1, 10000, MIN, MAX}) Sentences.add(calls, "flood by " + n, d -> d.flood(n, 1, 0));
        for (int n : new int[] {0, 41, -1, MIN, MAX}) Sentences.add(calls, "flood of " + n, d -> d.flood(0, n, 0));
    }

    /** Of numbers that need a walk such as there is. */
    private static void badNumbersOfWalks(List<Sentences.Call> calls, int walks) {
        for (int n = 0; n < walks; n++) {
            int w = n;
            for (int k : new int[] {-3, MIN}) Sentences.add(calls, "walk " + w + " " + k, d -> d.walk(w, k));
            for (int k : new int[] {-1, MIN}) Sentences.add(calls, "first " + w + " " + k, d -> d.first(w, k));
            for (int k : new int[] {-1, 5, MIN, MAX}) Sentences.add(calls, "lost " + w + " " + k, d -> d.lost(w, k));
        }
    }

    private static void bad() {
        scenes().forEach((name, made) -> {
            List<Sentences.Call> calls = new ArrayList<>();
            int places = made.get().count(0), walks = made.get().count(2);
            badPlaces(calls, places);
            badWalks(calls, walks);
            badNumbers(calls);
            badNumbersOfWalks(calls, walks);
            for (Sentences.Call call : calls) {
                Sentences.changesNothing(made, name + ": " + call.name(), call.on(), BAD);
            }
        });
    }

    private static void no() {
        for (String name : new String[] {"a new one", "an empty one", "one with a fault", "a small one"}) {
            Supplier<DrawnByLost> made = scenes().get(name);
            Sentences.changesNothing(made, name + ": lay", d -> d.lay(), NO);
        }
        for (String name : new String[] {"a new one", "an empty one", "a small one"}) {
            Supplier<DrawnByLost> made = scenes().get(name);
            Sentences.changesNothing(made, name + ": undo", d -> d.undo(), NO);
            Sentences.changesNothing(made, name + ": back", d -> d.back(), NO);
        }
        Sentences.changesNothing(DrawnByLost::new, "lost of a turned one", d -> d.lost(1, 0), NO);
        Sentences.changesNothing(DrawnByLost::new, "lost of a liar", d -> d.lost(3, 1), NO);
        Sentences.changesNothing(DrawnByLost::new, "lost of too few marks", d -> d.lost(0, 3), NO);
    }

    private static void fullOnes() {
        Sentences.changesNothing(RefusalTests::full, "write", d -> d.write(';'), FULL);
        Sentences.changesNothing(RefusalTests::full, "tell", d -> d.tell(0, 11), FULL);
        Sentences.changesNothing(RefusalTests::full, "keep", d -> d.keep(), FULL);
        Sentences.changesNothing(DrawnByLost::new, "tell to five", d -> d.tell(2, 66666), FULL);
    }

    private static void none() {
        Sentences.changesNothing(DrawnByLost::new, "fault of nothing", d -> d.fault(), NONE);
        Sentences.changesNothing(RefusalTests::full, "fault of a full text", d -> d.fault(), NONE);
        Sentences.changesNothing(DrawnByLost::new, "a fourth mark of three", d -> d.walk(0, 3), NONE);
        Sentences.changesNothing(DrawnByLost::new, "a fourth place of three", d -> d.first(0, 3), NONE);
        Sentences.changesNothing(DrawnByLost::new, "first of none", d -> d.first(2, 0), NONE);
        Sentences.changesNothing(RefusalTests::full, "no two to be swapped", d -> d.moved(1), NONE);
        Sentences.changesNothing(RefusalTests::small, "no marks for a corner", d -> d.known(0, -1), NONE);
        Sentences.changesNothing(RefusalTests::empty, "no flood behind which one lies", d -> d.flood(5, 40, 1), NONE);
    }

    private static void asked() {
        scenes().forEach((name, made) -> {
            for (List<Sentences.Call> calls : List.of(Sentences.walkQuestions(), Sentences.roadQuestions())) {
                String answers = Sentences.answers(made.get(), calls);
                DrawnByLost twice = made.get();
                Sentences.answers(twice, calls.subList(0, 40));
                Sentences.same(name + " asked twice", Sentences.answers(twice, calls), answers);
                Sentences.changesNothing(made, name + ": questions", d -> Sentences.answers(d, calls).isEmpty() ? 1 : 0, 0);
            }
        });
    }

    /** Each call fits two refusals: BAD stands ahead of NO, NONE, FULL. */
    private static void ofSeveral() {
        Sentences.changesNothing(RefusalTests::full, "a bad letter into a full text", d -> d.write(31), BAD);
        Sentences.changesNothing(RefusalTests::full, "a bad kind of a sixth walk", d -> d.tell(4, 11), BAD);
        Sentences.changesNothing(RefusalTests::full, "bad marks of a sixth walk", d -> d.tell(0, 107), BAD);
        Sentences.changesNothing(DrawnByLost::new, "a turned one, five times", d -> d.lost(1, 5), BAD);
        Sentences.changesNothing(DrawnByLost::new, "too few marks, five times", d -> d.lost(0, 5), BAD);
        Sentences.changesNothing(DrawnByLost::new, "a turned one, -1 times", d -> d.lost(1, -1), BAD);
        Sentences.changesNothing(DrawnByLost::new, "no walk, and it has no such mark", d -> d.walk(5, 9), BAD);
        Sentences.changesNothing(DrawnByLost::new, "no walk, and it has no such place", d -> d.first(5, 9), BAD);
        Sentences.changesNothing(DrawnByLost::new, "place -1 of a walk that lies nowhere", d -> d.first(2, -1), BAD);
        Sentences.changesNothing(RefusalTests::small, "mark 4 of none", d -> d.known(0, 4), BAD);
    }

    public static void main(String[] args) {
        Sentences.sentence(30, "BAD: a number is none that is told (PLACES, MARKS, WALKS: such as there are).", RefusalTests::bad);
        Sentences.sentence(12, "NO: not as things stand.", RefusalTests::no);
        Sentences.sentence(28, "FULL.", RefusalTests::fullOnes);
        Sentences.sentence(14, "NONE: there is none.", RefusalTests::none);
        Sentences.sentence(27, "nothing changes then.", RefusalTests::asked);
        Sentences.sentence(25, "Of several the first; nothing changes then.", RefusalTests::ofSeveral);
        Sentences.end();
    }
}
