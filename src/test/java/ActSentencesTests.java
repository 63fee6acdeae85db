/** Sentences of the document on acts and on what is kept: promises 8 to 12 and 28 to 30. */
public final class ActSentencesTests {
    private static final int BAD = Sentences.BAD, NO = Sentences.NO, FULL = Sentences.FULL, NONE = Sentences.NONE;
    private static final int MIN = Sentences.MIN, MAX = Sentences.MAX;

    private static void sentence(int promise, String words, Runnable test) {
        Sentences.sentence(promise, words, test);
    }

    private static void due(String call, int got, int want) {
        Sentences.due(call, got, want);
    }

    private static void same(String what, String got, String want) {
        Sentences.same(what, got, want);
    }

    private static DrawnByLost laid(String text) {
        return Sentences.laid(text);
    }

    private static String marks(DrawnByLost x) {
        return Sentences.marks(x);
    }

    private static String walks(DrawnByLost x) {
        return Sentences.walks(x);
    }

    private static void swap() {
        sentence(8, "`int swap(int x, int y)`: Two PLACES' MARKS are SWAPPED: that of the first one then. BAD (alike, too).", () -> {
            DrawnByLost x = laid("d2,3;m0,1;m1,2;m2,3;m3,4;m4,5;w000;");
            due("first and last", x.swap(0, 5), 0);
            same("marks", marks(x), "023451");
            due("last and first", x.swap(5, 0), 0);
            same("marks", marks(x), "123450");
            due("the mark that the first one has then", x.swap(1, 4), 5);
            due("of those marks again, the other way", x.swap(4, 1), 5);
            due("alike", x.swap(3, 3), BAD);
            due("alike, 0", x.swap(0, 0), BAD);
            due("alike, the last", x.swap(5, 5), BAD);
            due("behind the last", x.swap(6, 0), BAD);
            due("with one behind the last", x.swap(0, 6), BAD);
            due("ahead of the first", x.swap(-1, 0), BAD);
            due("with one ahead of the first", x.swap(0, -1), BAD);
            same("marks", marks(x), "123450");
            due("acts", x.count(3), 4);
        });
        sentence(8, "Two PLACES' MARKS can be SWAPPED;", () -> {
            DrawnByLost x = laid("d2,2;m0,3;m1,3;w000;");
            due("unlike places of like marks", x.swap(0, 1), 3);
            same("marks", marks(x), "3300");
            due("it is an act", x.count(3), 1);
            due("every two", x.swap(0, 3), 0);
            due("walks stay", x.count(2), 1);
            due("undone", x.undo() + x.undo(), 1);
            same("marks", marks(x), "3300");
        });
    }

    private static void alter() {
        sentence(9, "`int alter(int x, int m)`: A MARK is altered: what it was. BAD.", () -> {
            DrawnByLost x = laid("d2,2;m0,5;w000;");
            due("the first place", x.alter(0, 0), 5);
            due("the last place, to the highest", x.alter(3, 5), 0);
            due("once more", x.alter(3, 5), 5);
            same("marks", marks(x), "0005");
            due("above the highest", x.alter(3, 6), BAD);
            due("below the lowest", x.alter(3, -1), BAD);
            due("behind the last", x.alter(4, 0), BAD);
            due("ahead of the first", x.alter(-1, 0), BAD);
            for (int n : new int[] {MIN, MAX}) due("far off", x.alter(n, 0) + x.alter(0, n), 2 * BAD);
            same("marks", marks(x), "0005");
            due("acts", x.count(3), 3);
            for (int m = 0; m < 6; m++) due("alter to " + m, x.alter(1, m), Math.max(0, m - 1));
        });
    }

    private static void tell() {
        sentence(10, "its MARKS as figures, the first ahead, each 1 more (11 to 66666, figures 1 to 6): how many there are. BAD; FULL.", () -> {
            DrawnByLost x = laid("d2,2;w000;");
            due("the lowest", x.tell(0, 11), 2);
            due("the highest", x.tell(3, 66666), 3);
            due("the first ahead", x.tell(1, 1246), 4);
            due("of three", x.tell(2, 635), 5);
            same("walks", walks(x), "w000;w000;w355555;w10135;w2524;");
        });
        sentence(10, "(11 to 66666, figures 1 to 6)", () -> {
            DrawnByLost x = laid("d2,2;w000;");
            for (int n : new int[] {10, 9, 6, 1, 0, -1, -11, -66666, 66667, 66670, 66700, 67000, 70000, 77777, 111111,
                MIN, MAX, 17, 18, 19, 20, 60, 67, 70, 71, 77, 99, 100, 101, 110, 107, 170, 701, 710, 1011, 1101, 1110, 7111,
                1711, 1171, 1117, 10111, 11011, 11101, 11110, 71111, 17111, 11711, 11171, 11117}) {
                due("tell " + n, x.tell(0, n), BAD);
            }
            same("walks", walks(x), "w000;");
            due("acts", x.count(3), 0);
            for (int n = -20; n <= 70000; n++) {
                if (String.valueOf(n).matches("[1-6]{2,5}")) continue;
                // a refused call is none of those that count: an object for every 400 of them
                if (n % 400 == 0) x = laid("d2,2;w000;");
                due("tell " + n, x.tell(0, n), BAD);
            }
        });
        sentence(10, "`int tell(int kind, int marks)`: A WALK is TOLD", () -> {
            DrawnByLost x = laid("d2,2;w000;");
            for (int kind : new int[] {-1, 4, MIN, MAX}) due("of kind " + kind, x.tell(kind, 11), BAD);
            for (int kind = 0; kind < 4; kind++) {
                due("of kind " + kind, x.tell(kind, 11), kind + 2);
                due("its kind", x.walk(kind + 1, -2), kind);
            }
        });
        sentence(10, "a WALK be TOLD (behind the others; 5 at most)", () -> {
            DrawnByLost x = laid("d2,2;w012;w123;w205;");
            due("the fourth", x.tell(3, 12), 4);
            due("the fifth", x.tell(0, 13), 5);
            due("a sixth", x.tell(0, 11), FULL);
            same("walks", walks(x), "w012;w123;w205;w301;w002;");
            due("acts", x.count(3), 2);
            due("none of bad marks either", x.tell(0, 10), BAD);
            due("none of a bad kind either", x.tell(4, 11), BAD);
            x.strike(1);
            due("there is room again", x.tell(1, 65), 5);
            same("behind the others", walks(x), "w012;w205;w301;w002;w154;");
            due("five as laid", laid("w000;w000;w000;w000;w000;").tell(0, 11), FULL);
        });
    }

    private static void strike() {
        sentence(11, "STRUCK OUT (those behind it come one down)", () -> {
            String[] left = {"w123;w20543;", "w012;w20543;", "w012;w123;"};
            for (int w = 0; w < 3; w++) {
                DrawnByLost x = laid("w012;w123;w20543;");
                due("strike " + w, x.strike(w), 2);
                same("walks", walks(x), left[w]);
                due("the third is none now", x.walk(2, 0), BAD);
                due("nor can it be struck out", x.strike(2), BAD);
            }
        });
        sentence(11, "`int strike(int w)`: A WALK is STRUCK OUT: how many are left. BAD.", () -> {
            DrawnByLost x = new DrawnByLost();
            for (int n : new int[] {5, -1, MIN, MAX}) due("strike " + n, x.strike(n), BAD);
            for (int left = 4; left >= 0; left--) due("strike", x.strike(left), left);
            due("of none", x.strike(0), BAD);
            due("acts", x.count(3), 5);
            due("how many there are", x.count(2), 0);
            due("lied", x.lied(), 0);
            due("nobody went past any", x.nobody(), 4095);
            due("may", x.may(11), 63);
            due("told behind none", x.tell(1, 16), 1);
            same("walks", walks(x), "w105;");
        });
    }

    private static void undo() {
        sentence(12, "UNDONE is the latest of these (the last 8 can be).", () -> {
            DrawnByLost x = laid("w000;");
            for (int p = 0; p < 10; p++) {
                due("how many can be", x.count(3), Math.min(p, 8));
                x.alter(p, 5);
            }
            due("how many can be", x.count(3), 8);
            for (int left = 7; left >= 0; left--) {
                due("undo", x.undo(), left);
                due("the latest", x.place(left + 2, 0), 0);
                due("the one ahead of it is not yet", x.place(left + 1, 0), 5);
            }
            due("the ninth of the last", x.undo(), NO);
            same("it stays", marks(x), "5500000000000000");
            for (int p = 0; p < 8; p++) x.alter(p + 8, 4);
            due("eight again", x.undo(), 7);
        });
        sentence(12, "Two PLACES' MARKS can be SWAPPED; a PLACE's MARK be altered; a WALK be TOLD (behind the others; 5 at most), STRUCK OUT", () -> {
            DrawnByLost x = laid("d2,2;m0,1;w012;w123;w20543;");
            x.swap(0, 3);
            x.alter(2, 4);
            x.tell(3, 66);
            x.strike(0);
            same("behind them", marks(x) + walks(x), "0041w123;w20543;w355;");
            due("undo of a strike", x.undo(), 3);
            same("behind it", marks(x) + walks(x), "0041w012;w123;w20543;w355;");
            due("undo of a tell", x.undo(), 2);
            same("behind it", marks(x) + walks(x), "0041w012;w123;w20543;");
            due("undo of an alter", x.undo(), 1);
            same("behind it", marks(x) + walks(x), "0001w012;w123;w20543;");
            due("undo of a swap", x.undo(), 0);
            same("behind it", marks(x) + walks(x), "1000w012;w123;w20543;");
            due("undo of none", x.undo(), NO);
        });
        sentence(12, "`int undo()`: UNDONE: how many more can be. NO.", () -> {
            DrawnByLost x = laid("d2,2;w000;");
            due("of none", x.undo(), NO);
            x.alter(0, 1);
            x.alter(0, 2);
            due("one more", x.undo(), 1);
            x.alter(0, 3);
            due("what came behind the undone one", x.undo(), 1);
            due("then the one ahead", x.place(0, 0), 1);
            due("and that", x.undo(), 0);
            due("the first", x.place(0, 0), 0);
            due("an undone one is none that can be undone", x.undo(), NO);
            x.alter(1, 6);
            x.swap(2, 2);
            x.strike(1);
            x.tell(0, 7);
            due("nor are refused ones", x.undo(), NO);
            x.keep();
            x.write('x');
            x.wipe();
            due("nor is what is no act", x.undo(), NO);
        });
    }

    private static void keep() {
        sentence(28, "KEPT are MARKS, WALKS: 2 at most.", () -> {
            DrawnByLost x = laid("d2,2;m0,1;w012;w123;");
            due("the first", x.keep(), 1);
            x.alter(0, 2);
            x.strike(0);
            due("the second", x.keep(), 2);
            x.alter(0, 3);
            x.tell(2, 11);
            due("a third", x.keep(), FULL);
            due("how many", x.count(4), 2);
            due("back", x.back(), 1);
            same("as the second", marks(x) + walks(x), "2000w123;");
            due("there is room again", x.keep(), 2);
            due("back", x.back() + x.back(), 1);
            same("as the first", marks(x) + walks(x), "1000w012;w123;");
        });
        sentence(28, "`int keep()`: KEPT: how many. FULL.", () -> {
            DrawnByLost x = laid("d2,2;m0,1;w012;");
            x.alter(3, 3);
            due("keep", x.keep(), 1);
            due("what can be undone stays", x.count(3), 1);
            due("undo", x.undo(), 0);
            same("marks", marks(x), "1000");
            due("keep alike twice", x.keep(), 2);
            due("a third", x.keep(), FULL);
            due("THE TEXT is not kept", x.wipe(), 15);
            due("back", x.back(), 1);
            due("THE TEXT stays as it is", x.count(5), 0);
        });
    }

    private static void back() {
        sentence(29, "`int back()`: As KEPT last: how many are left; nothing is UNDONE then. NO.", () -> {
            DrawnByLost x = new DrawnByLost();
            due("of none", x.back(), NO);
            x.swap(0, 5);
            x.keep();
            x.strike(4);
            x.keep();
            x.alter(11, 5);
            due("acts", x.count(3), 3);
            due("back", x.back(), 1);
            due("nothing can be undone", x.count(3), 0);
            due("undo", x.undo(), NO);
            same("as kept last", marks(x) + walks(x), "112030040250w0012;w1213;w2354;w301;");
            x.alter(0, 0);
            due("back", x.back(), 0);
            same("as kept ahead of it", marks(x) + walks(x), "112030040250w0012;w1213;w2354;w301;w0315;");
            due("nothing can be undone", x.undo(), NO);
            x.alter(0, 0);
            due("of none again", x.back(), NO);
            due("then the act stands", x.undo(), 0);
            due("and was undone", x.place(0, 0), 1);
        });
    }

    private static void count() {
        sentence(30, "`int count(int what)`: How many: 0 PLACES, 1 rows, 2 WALKS, 3 that can be UNDONE, 4 KEPT, 5 letters of THE TEXT. BAD.", () -> {
            DrawnByLost x = laid("d3,2;w000;w000;");
            int[] counts = {6, 3, 2, 0, 0, 15};
            for (int n = 0; n < 6; n++) due("count " + n, x.count(n), counts[n]);
            for (int n : new int[] {6, -1, MIN, MAX}) due("count " + n, x.count(n), BAD);
            x.tell(0, 11);
            x.alter(0, 1);
            x.keep();
            x.wipe();
            int[] later = {6, 3, 3, 2, 1, 0};
            for (int n = 0; n < 6; n++) due("count " + n, x.count(n), later[n]);
            DrawnByLost y = Sentences.laid(Sentences.LONG_TEXT);
            for (int i = 0; i < 20; i++) {
                y.tell(0, 11);
                y.keep();
                y.alter(0, 1);
                y.write('x');
            }
            int[] most = {6, 2, 5, 8, 2, 200};
            for (int n = 0; n < 6; n++) due("count " + n, y.count(n), most[n]);
            DrawnByLost z = new DrawnByLost();
            for (int i = 0; i < 9; i++) z.strike(0);
            due("none", z.count(2), 0);
            DrawnByLost v = laid("d4,3;w000;");
            due("rows, not columns", v.count(1), 4);
        });
    }

    public static void main(String[] args) {
        swap();
        alter();
        tell();
        strike();
        undo();
        keep();
        back();
        count();
        Sentences.end();
    }
}
