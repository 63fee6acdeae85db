/**
 * For each promise of ../shared/DOC.md calls with answers worked out by hand:
 * ordinary inputs, the edges that the document names, and wrong inputs.
 */
public final class PromiseTests {
    private static final int BAD = -1, NO = -2, FULL = -3, NONE = -4;
    private static final int[] WRONG = {-1, Integer.MIN_VALUE, Integer.MAX_VALUE};
    private static int wrong = 0;
    private static String promise = "";

    private static void due(String call, int got, int want) {
        if (got != want) {
            wrong++;
            System.out.println(promise + ": " + call + " answered " + got + ", due is " + want);
        }
    }

    private static DrawnByLost written(String text) {
        DrawnByLost x = new DrawnByLost();
        for (int i = 0; i < text.length(); i++) {
            due("write of letter " + i + " of " + text, x.write(text.charAt(i)), i + 1);
        }
        return x;
    }

    private static DrawnByLost laid(String text) {
        DrawnByLost x = written(text);
        due("fault of " + text, x.fault(), NONE);
        due("whether it was laid: " + text, x.lay() > 0 ? 1 : 0, 1);
        return x;
    }

    private static void faultDue(String text, int want) {
        DrawnByLost x = written(text);
        due("fault of " + text, x.fault(), want);
        if (want != NONE) {
            due("lay of " + text, x.lay(), NO);
            due("places behind " + text, x.count(0), 12);
        }
    }

    /** The marks of all places, the first ahead. */
    private static String marks(DrawnByLost x) {
        StringBuilder s = new StringBuilder();
        for (int p = 0; p < x.count(0); p++) s.append(x.place(p, 0));
        return s.toString();
    }

    /** A walk as in THE TEXT. */
    private static String walk(DrawnByLost x, int w) {
        StringBuilder s = new StringBuilder("w").append(x.walk(w, -2));
        for (int k = 0; k < x.walk(w, -1); k++) s.append(x.walk(w, k));
        return s.toString();
    }

    private static String walks(DrawnByLost x) {
        StringBuilder s = new StringBuilder();
        for (int w = 0; w < x.count(2); w++) s.append(walk(x, w)).append(';');
        return s.toString();
    }

    private static void same(String what, String got, String want) {
        if (!got.equals(want)) {
            wrong++;
            System.out.println(promise + ": " + what + " is " + got + ", due is " + want);
        }
    }

    private static void newObject() {
        DrawnByLost x = new DrawnByLost();
        due("count(0)", x.count(0), 12);
        due("count(1)", x.count(1), 3);
        due("count(2)", x.count(2), 5);
        due("count(3)", x.count(3), 0);
        due("count(4)", x.count(4), 0);
        due("count(5)", x.count(5), 0);
        same("marks", marks(x), "012031040250");
        same("walks", walks(x), "w0012;w1213;w2354;w301;w0315;");
        due("hunger of mark 5", x.road(9, 10, 0), 2);
        due("hunger of mark 4", x.road(3, 7, 0), 5);
        due("fault()", x.fault(), NONE);
        due("lay()", x.lay(), NO);
        due("undo()", x.undo(), NO);
        due("back()", x.back(), NO);
    }

    private static void write() {
        DrawnByLost x = new DrawnByLost();
        due("write(31)", x.write(31), BAD);
        due("write(127)", x.write(127), BAD);
        for (int n : WRONG) due("write " + n, x.write(n), BAD);
        due("count(5)", x.count(5), 0);
        due("write(32)", x.write(32), 1);
        due("write(126)", x.write(126), 2);
        for (int n = 3; n <= 200; n++) due("write " + n, x.write(';'), n);
        due("write when full", x.write('d'), FULL);
        due("bad write when full", x.write(10), BAD);
        due("count(5)", x.count(5), 200);
    }

    private static void wipe() {
        DrawnByLost x = written("d2,2;w000;");
        due("wipe()", x.wipe(), 10);
        due("wipe()", x.wipe(), 0);
        due("count(5)", x.count(5), 0);
        due("fault()", x.fault(), NONE);
        due("write", x.write('q'), 1);
        due("fault()", x.fault(), 0);
        due("count(0)", x.count(0), 12);
    }

    private static void fault() {
        faultDue("", NONE);
        for (String all : new String[] {"d2,2;", "d4,4;", "d02,04;", "d2,2;d3,4;m11,0;", "m0,0;", "m15,5;", "m07,05;",
            "h0,1;", "h5,9;", "h05,09;", "w000;", "w355555;", "w012;w112;w212;w312;w012;"}) faultDue(all, NONE);
        for (String none : new String[] {"d1,2;", "d5,2;", "d2,1;", "d2,5;", "d002,2;", "d2,002;", "d2;", "d2,;", "d,2;",
            "d2,2", "d2,2,", "d2 ,2;", "d 2,2;", "D2,2;", "d2.2;", "d2,2:", "d-2,2;", "m16,0;", "m0,6;", "m1;", "m1,2,3;",
            "m100,1;", "m1,100;", "m,1;", "h6,1;", "h0,0;", "h0,10;", "h0,00;", "w;", "w0;", "w00;", "w400;", "w006;",
            "w0000000;", "w000000000;", "w0,00;", "w000", "w00", "x;", ";", " ", "d", "w", "m1", "m1,", "m1,1", "w 00;"}) {
            faultDue(none, 0);
            faultDue("m01,2;" + none, 6);
        }
        faultDue("d2,2;m3,1;", NONE);
        faultDue("d2,2;m4,1;", 5);
        faultDue("d4,4;d2,2;m4,1;", 10);
        faultDue("d3,4;m12,0;", 5);
        faultDue("m1,1;d2,2;", 5);
        faultDue("h1,1;d2,2;", 5);
        faultDue("w000;d2,2;", 5);
        faultDue("d2,2;m1,1;d2,2;", 10);
        faultDue("w012;w112;w212;w312;w012;w012;", 25);
        faultDue("w012;m1,1;x;y;", 10);
        faultDue("w012; m1,1;", 5);
        faultDue("w012;;", 5);
        faultDue("d1,1;x", 0);
    }

    private static void lay() {
        DrawnByLost x = laid("d2,3;d3,2;m0,1;m0,4;m5,2;h1,7;h1,8;h3,1;w012;w3210;");
        due("count(0)", x.count(0), 6);
        due("count(1)", x.count(1), 3);
        same("marks", marks(x), "400002");
        same("walks", walks(x), "w012;w3210;");
        due("count(5)", x.count(5), 51);
        due("lay again", x.lay(), 6);
        x.alter(2, 1);
        x.alter(3, 3);
        due("hunger 8 for 1", x.road(0, 2, 0), 8);
        due("hunger 1 for 3", x.road(5, 3, 0), 1);
        due("hunger 5 for 4", x.road(1, 0, 0), 5);
        x.keep();
        due("count(3)", x.count(3), 2);
        due("lay again", x.lay(), 6);
        same("marks", marks(x), "400002");
        due("count(3)", x.count(3), 0);
        due("count(4)", x.count(4), 0);
        due("undo", x.undo(), NO);
        due("back", x.back(), NO);
        x.swap(0, 1);
        x.keep();
        x.wipe();
        due("lay of nothing", x.lay(), NO);
        for (char letter : "d2,2;m0,1;".toCharArray()) x.write(letter);
        due("lay without a walk", x.lay(), NO);
        x.write('w');
        due("lay with a fault", x.lay(), NO);
        due("count(0)", x.count(0), 6);
        due("count(3)", x.count(3), 1);
        due("count(4)", x.count(4), 1);
        same("marks", marks(x), "040002");
        for (char letter : "012;".toCharArray()) x.write(letter);
        due("lay", x.lay(), 4);
        same("marks", marks(x), "1000");
        due("hunger 2 for 1 again", x.road(1, 0, 0), 2);
        due("sixteen", laid("w000;").count(0), 16);
        due("four rows", laid("w000;").count(1), 4);
    }

    private static void place() {
        DrawnByLost x = new DrawnByLost();
        due("place(10, 0)", x.place(10, 0), 5);
        due("place(11, 0)", x.place(11, 0), 0);
        due("place(11, 1)", x.place(11, 1), 5);
        due("place(1, 1)", x.place(1, 1), 4);
        due("place(5, 1)", x.place(5, 1), 5);
        due("place(4, 1)", x.place(4, 1), 3);
        due("place(9, 1)", x.place(9, 1), 4);
        due("place(12, 0)", x.place(12, 0), BAD);
        due("place(0, 2)", x.place(0, 2), BAD);
        for (int n : WRONG) {
            due("place " + n, x.place(n, 0), BAD);
            due("place what " + n, x.place(0, n), BAD);
        }
        DrawnByLost y = laid("m5,1;m6,1;w000;");
        due("none of mark 1: all", y.place(0, 1), 6);
        due("one behind another is not seen", y.place(4, 1), 4);
        due("from mark 1 itself", y.place(5, 1), 5);
    }

    private static void walk() {
        DrawnByLost x = laid("w345012;w100;");
        due("walk(0, -2)", x.walk(0, -2), 3);
        due("walk(0, -1)", x.walk(0, -1), 5);
        due("walk(0, 0)", x.walk(0, 0), 4);
        due("walk(0, 1)", x.walk(0, 1), 5);
        due("walk(0, 4)", x.walk(0, 4), 2);
        due("walk(0, 5)", x.walk(0, 5), NONE);
        due("walk(1, -2)", x.walk(1, -2), 1);
        due("walk(1, -1)", x.walk(1, -1), 2);
        due("walk(1, 1)", x.walk(1, 1), 0);
        due("walk(1, 2)", x.walk(1, 2), NONE);
        due("walk(1, max)", x.walk(1, Integer.MAX_VALUE), NONE);
        due("walk(1, -3)", x.walk(1, -3), BAD);
        due("walk(1, min)", x.walk(1, Integer.MIN_VALUE), BAD);
        due("walk(2, 0)", x.walk(2, 0), BAD);
        due("walk(2, 9)", x.walk(2, 9), BAD);
        for (int n : WRONG) due("walk " + n, x.walk(n, 0), BAD);
        same("a turned one as told", walk(new DrawnByLost(), 1), "w1213");
    }

    private static void swap() {
        DrawnByLost x = new DrawnByLost();
        due("swap(4, 9)", x.swap(4, 9), 2);
        same("marks", marks(x), "012021040350");
        due("swap of marks alike", x.swap(0, 3), 0);
        due("count(3)", x.count(3), 2);
        due("swap(0, 11)", x.swap(0, 11), 0);
        due("swap with place 0", laid("d2,2;m3,4;m0,2;w000;").swap(3, 0), 2);
        for (int n : WRONG) {
            due("swap " + n, x.swap(n, 0), BAD);
            due("swap with " + n, x.swap(0, n), BAD);
        }
        due("swap(12, 0)", x.swap(12, 0), BAD);
        due("swap(0, 12)", x.swap(0, 12), BAD);
        due("swap(7, 7)", x.swap(7, 7), BAD);
        due("swap(12, 12)", x.swap(12, 12), BAD);
        due("count(3)", x.count(3), 3);
    }

    private static void alter() {
        DrawnByLost x = new DrawnByLost();
        due("alter(10, 0)", x.alter(10, 0), 5);
        due("alter(10, 5)", x.alter(10, 5), 0);
        due("alter to what it is", x.alter(10, 5), 5);
        due("count(3)", x.count(3), 3);
        due("alter(12, 0)", x.alter(12, 0), BAD);
        due("alter(0, 6)", x.alter(0, 6), BAD);
        for (int n : WRONG) {
            due("alter " + n, x.alter(n, 0), BAD);
            due("alter to " + n, x.alter(0, n), BAD);
        }
        due("count(3)", x.count(3), 3);
        same("marks", marks(x), "012031040250");
    }

    private static void tell() {
        DrawnByLost x = laid("w000;");
        due("tell(0, 11)", x.tell(0, 11), 2);
        due("tell(1, 66666)", x.tell(1, 66666), 3);
        for (int marks : new int[] {10, 0, -11, 66667, 111111, 17, 71, 101, 1011, 61666666, 16061, 70111, 11117, 5, 6,
            -66666, Integer.MAX_VALUE, Integer.MIN_VALUE}) due("tell " + marks, x.tell(0, marks), BAD);
        due("tell(4, 11)", x.tell(4, 11), BAD);
        for (int n : WRONG) due("tell of kind " + n, x.tell(n, 11), BAD);
        due("count(3)", x.count(3), 2);
        due("tell(2, 123)", x.tell(2, 123), 4);
        due("tell(3, 6541)", x.tell(3, 6541), 5);
        same("walks", walks(x), "w000;w000;w155555;w2012;w35430;");
        due("one too many", x.tell(0, 11), FULL);
        due("a bad one too many", x.tell(0, 17), BAD);
        due("count(2)", x.count(2), 5);
        due("count(3)", x.count(3), 4);
    }

    private static void strike() {
        DrawnByLost x = new DrawnByLost();
        due("strike(5)", x.strike(5), BAD);
        for (int n : WRONG) due("strike " + n, x.strike(n), BAD);
        due("strike(1)", x.strike(1), 4);
        same("walks", walks(x), "w0012;w2354;w301;w0315;");
        due("strike(4)", x.strike(4), BAD);
        due("strike(3)", x.strike(3), 3);
        due("strike(0)", x.strike(0), 2);
        same("walks", walks(x), "w2354;w301;");
        due("strike(0)", x.strike(0), 1);
        due("strike(0)", x.strike(0), 0);
        due("strike(0)", x.strike(0), BAD);
        due("lied without walks", x.lied(), 0);
        due("nobody without walks", x.nobody(), 4095);
        due("may without walks", x.may(0), 63);
        due("ways without walks", x.ways(0), BAD);
        due("tell", x.tell(2, 12), 1);
        same("walks", walks(x), "w201;");
        due("undo", x.undo(), 5);
        due("undo", x.undo(), 4);
        same("walks", walks(x), "w301;");
    }

    private static void undo() {
        DrawnByLost x = new DrawnByLost();
        due("undo of nothing", x.undo(), NO);
        x.swap(0, 1);
        x.alter(4, 5);
        x.strike(2);
        x.tell(1, 132);
        due("undo", x.undo(), 3);
        same("walks", walks(x), "w0012;w1213;w301;w0315;");
        due("undo", x.undo(), 2);
        same("walks", walks(x), "w0012;w1213;w2354;w301;w0315;");
        same("marks", marks(x), "102051040250");
        due("undo", x.undo(), 1);
        same("marks", marks(x), "102031040250");
        due("undo", x.undo(), 0);
        same("marks", marks(x), "012031040250");
        due("undo", x.undo(), NO);
        for (int p = 0; p < 11; p++) {
            x.alter(p, 5);
            due("count(3)", x.count(3), Math.min(p + 1, 8));
        }
        for (int left = 7; left >= 0; left--) due("undo", x.undo(), left);
        same("the first three stay", marks(x), "555031040250");
        due("undo", x.undo(), NO);
        x.alter(0, 0);
        x.alter(0, 9);
        x.ways(0);
        x.flood(3, 40, 0);
        x.keep();
        due("only acts are undone", x.undo(), 0);
        same("marks", marks(x), "555031040250");
    }

    private static void ways() {
        DrawnByLost x = laid("m0,1;m5,1;m10,1;m15,1;w011;w211;w311;w000;w0101;");
        due("of a plain one, none beside", x.ways(0), 0);
        due("of a hungry one", x.ways(1), 6);
        due("of a liar", x.ways(2), 12);
        due("of a plain one", x.ways(3), 24);
        due("there and back", x.ways(4), 24);
        due("ways(5)", x.ways(5), BAD);
        for (int n : WRONG) due("ways " + n, x.ways(n), BAD);
        DrawnByLost y = laid("w300000;w200000;w000000;w100;w00000;");
        due("16 15 15 15 15", y.ways(0), 810000);
        due("twos beside", y.ways(3), 48);
        DrawnByLost z = laid("d2,3;m0,1;m2,1;w211;w201;w3011;w1100;w0001;");
        due("two in a row are within two", z.ways(0), 2);
        due("3 of 0 from each", z.ways(1), 6);
        due("a liar", z.ways(2), 8);
        due("a turned one: 0 0 1", z.ways(3), 4);
        due("the same, plain", z.ways(4), 4);
    }

    private static void first() {
        DrawnByLost x = new DrawnByLost();
        due("first(3, 0)", x.first(3, 0), 0);
        due("first(3, 1)", x.first(3, 1), 1);
        due("first(3, 2)", x.first(3, 2), NONE);
        due("first(3, max)", x.first(3, Integer.MAX_VALUE), NONE);
        due("first of a liar that is none", x.first(2, 2), NONE);
        due("first(2, 0)", x.first(2, 0), NONE);
        due("first(2, -1)", x.first(2, -1), BAD);
        due("first(5, 0)", x.first(5, 0), BAD);
        for (int n : WRONG) due("first " + n, x.first(n, 0), BAD);
        DrawnByLost y = laid("d2,4;m0,1;m3,1;m6,1;m2,2;m7,3;w0123;w1320;w300;");
        due("plain 1 2 3: none", y.first(0, 0), NONE);
        due("turned 0 2 3: none", y.first(1, 0), NONE);
        due("liar 0", y.first(2, 0), 1);
        due("liar 0 0", y.first(2, 1), 4);
        DrawnByLost z = laid("d2,4;m0,1;m3,1;m2,2;m7,2;m6,3;w0123;w1320;");
        due("0 lies no further: from 3", z.first(0, 0), 3);
        due("by 2", z.first(0, 1), 2);
        due("to 6", z.first(0, 2), 6);
        due("no third", z.first(0, 3), NONE);
        due("turned 0 2 3: from 1", z.first(1, 0), 1);
        due("by 2", z.first(1, 1), 2);
        due("to 6", z.first(1, 2), 6);
        due("the start again", laid("w000000;").first(0, 2), 0);
        DrawnByLost v = laid("w00000;w000;");
        due("a long one", v.first(0, 2), 0);
        due("behind it a short one", v.first(1, 2), NONE);
        due("a hungry one two away", laid("d2,4;m0,1;m5,1;m4,2;m1,2;m7,1;w211;").first(0, 1), 5);
    }

    private static void ends() {
        DrawnByLost x = laid("d2,3;m0,1;m2,1;w001;w110;w201;w3011;w025;");
        due("plain", x.ends(0), 5);
        due("turned: where the first mark is", x.ends(1), 5);
        due("hungry", x.ends(2), 5);
        due("liar", x.ends(3), 5);
        due("none", x.ends(4), 0);
        due("ends(5)", x.ends(5), BAD);
        for (int n : WRONG) due("ends " + n, x.ends(n), BAD);
        DrawnByLost y = laid("d2,4;m0,1;m1,2;w012;w112;w020;w221;w210;");
        due("plain 1 2", y.ends(0), 2);
        due("turned 2 1", y.ends(1), 1);
        due("beside 1", y.ends(2), 36);
        due("hungry 2 1", y.ends(3), 1);
        due("no more than two from 0", y.ends(4), 52);
        DrawnByLost z = laid("m0,2;m8,1;m2,3;m10,4;m11,5;w212;w221;w234;w243;w245;");
        due("hungry, two up", z.ends(0), 1);
        due("hungry, two down", z.ends(1), 256);
        due("hungry, two down, not as far", z.ends(2), 1024);
        due("hungry, two up", z.ends(3), 4);
        due("hungry, one to the right", z.ends(4), 2048);
        DrawnByLost far = laid("m0,1;m3,2;m12,3;m6,4;m9,5;w212;w213;w214;w215;w245;");
        for (int w = 0; w < 5; w++) due("three and more are too far, two are not", far.ends(w), w == 4 ? 512 : 0);
    }

    private static void lied() {
        due("at first", new DrawnByLost().lied(), 20);
        DrawnByLost x = laid("d2,2;m0,1;m3,1;w011;w211;w111;w311;w022;");
        due("lied", x.lied(), 21);
        x.alter(1, 1);
        due("lied", x.lied(), 16);
        x.strike(4);
        due("lied", x.lied(), 0);
        due("a liar needs another place", laid("m0,1;w311;w3101;").lied(), 1);
    }

    private static void nobody() {
        due("at first", new DrawnByLost().nobody(), 1152);
        DrawnByLost x = laid("d2,4;m1,1;m7,2;w010;w021;");
        due("1 and beside it", x.nobody(), 0xff & ~(1 | 2 | 4 | 32));
        x.tell(3, 23);
        due("a liar too", x.nobody(), 0x58);
        x.strike(0);
        due("without the first", x.nobody(), 0x7d);
        x.strike(1);
        due("one who lied went past none", x.nobody(), 255);
        DrawnByLost y = laid("d2,4;m0,1;m1,2;m3,3;w012;w0123;");
        due("only whole rows", y.nobody(), 0xfc);
        DrawnByLost z = laid("d2,4;m1,1;m2,2;m3,3;w001;w00123;");
        due("both", z.nobody(), 0xd0);
        z.strike(1);
        due("behind it one alone", z.nobody(), 0xdc);
    }

    private static void may() {
        DrawnByLost x = laid("d2,2;m0,1;w001;w012;");
        due("may(0)", x.may(0), 0);
        due("may(1)", x.may(1), 4);
        due("may(2)", x.may(2), 4);
        due("may(3)", x.may(3), 0);
        same("nothing is altered", marks(x), "1000");
        x.strike(1);
        due("what it has, too", x.may(0), 2);
        due("all but lost ones", x.may(3), 63);
        due("may(1), the other one is left", x.may(1), 63);
        due("may(4)", x.may(4), BAD);
        for (int n : WRONG) due("may " + n, x.may(n), BAD);
        due("count(3)", x.count(3), 1);
    }

    private static void moved() {
        DrawnByLost x = laid("d2,3;m0,1;m5,2;w012;");
        due("moved(0)", x.moved(0), 4);
        due("moved(1)", x.moved(1), 2);
        due("moved(2)", x.moved(2), BAD);
        for (int n : WRONG) due("moved " + n, x.moved(n), BAD);
        same("nothing is swapped", marks(x), "100002");
        due("count(3)", x.count(3), 0);
        DrawnByLost y = laid("m0,1;m15,2;w012;w3333;");
        due("none", y.moved(0), 0);
        due("none", y.moved(1), NONE);
        due("alike ones are no twos", laid("d2,2;w000;").moved(0), 0);
        DrawnByLost z = laid("d2,2;m3,1;w001;");
        due("though nobody lies now", z.moved(0), 3);
        due("the lower, then the higher", z.moved(1), 3);
        due("16 times the lower", laid("d2,4;m3,1;m5,2;w012;").moved(1), 19);
    }

    private static void known() {
        DrawnByLost x = laid("d2,2;m0,1;m1,1;m2,2;w000;");
        due("known(3, -1)", x.known(3, -1), 1);
        due("known(3, 0)", x.known(3, 0), 0);
        due("known(3, 1)", x.known(3, 1), NONE);
        due("known(0, -1)", x.known(0, -1), 2);
        due("known(0, 0)", x.known(0, 0), 2);
        due("known(0, 1)", x.known(0, 1), 1);
        due("known(0, 2)", x.known(0, 2), NONE);
        due("known(1, 0)", x.known(1, 0), 0);
        due("known(0, 4)", x.known(0, 4), BAD);
        due("known(0, -2)", x.known(0, -2), BAD);
        due("known(4, 0)", x.known(4, 0), BAD);
        for (int n : WRONG) due("known " + n, x.known(n, -1), BAD);
        due("known(0, min)", x.known(0, Integer.MIN_VALUE), BAD);
        due("known(0, max)", x.known(0, Integer.MAX_VALUE), BAD);
        DrawnByLost y = laid("d2,4;m0,1;w000;");
        due("a corner by itself", y.known(0, 0), 1);
        due("the other corner: by none", y.known(7, -1), NONE);
        due("its marks: none", y.known(7, 0), NONE);
        due("none, and no mark is told of", y.known(7, 4), BAD);
        DrawnByLost z = laid("d2,4;m0,1;m1,2;m2,3;m4,2;m5,3;m6,4;m7,4;w000;");
        due("place 3", z.known(3, 0), 0);
        due("place 7 by 0 4", z.known(7, -1), 2);
        due("place 7 by 0 4", z.known(7, 1), 4);
        due("place 6 by 3 4", z.known(6, -1), 2);
        due("its first", z.known(6, 0), 3);
        due("its second", z.known(6, 1), 4);
        due("its third", z.known(6, 2), NONE);
        due("place 2: 0 3", z.known(2, -1), 2);
        due("place 2: first", z.known(2, 0), 0);
        due("place 2: last", z.known(2, 1), 3);
        due("place 5: 0 3 2 3 is 5, too, but 0 4 4 3 has 2; 1 2 3 has 2", z.known(5, -1), NONE);
        DrawnByLost v = laid("d2,4;m0,1;m1,2;m2,3;m3,4;m4,1;m5,2;m6,5;w000;");
        due("place 3", v.known(3, -1), 1);
        due("place 1 by 3 2", v.known(1, -1), 2);
        due("place 5 by 5 2", v.known(5, 0), 5);
        due("place 0 by 3 2 1", v.known(0, -1), 3);
        due("place 0 by 3 2 1", v.known(0, 0), 3);
        due("place 4 by 5 2 1", v.known(4, 0), 5);
        DrawnByLost four = laid("d2,3;m1,1;m4,2;m5,2;w000;");
        due("place 2 by 1 0 2 0", four.known(2, -1), 4);
        int[] word = {1, 0, 2, 0};
        for (int k = 0; k < 4; k++) due("its mark " + k, four.known(2, k), word[k]);
    }

    private static void round() {
        DrawnByLost x = laid("m0,1;m1,1;w0101;w2101;w3101;w0111;w3111;");
        due("there and back", x.round(0), 1);
        due("hungry", x.round(1), 1);
        due("a liar", x.round(2), 1);
        due("two beside, three marks", x.round(3), 1);
        due("a liar of two", x.round(4), 1);
        due("round(5)", x.round(5), BAD);
        for (int n : WRONG) due("round " + n, x.round(n), BAD);
        DrawnByLost y = laid("d2,2;m0,1;m3,1;w011;w211;w3111;w1010;w0000;");
        due("none beside", y.round(0), 0);
        due("two marks: no way back", y.round(1), 0);
        due("a liar there and back", y.round(2), 1);
        due("turned there and back", y.round(3), 1);
        due("0 0 are not beside", y.round(4), 0);
        due("other marks at both", laid("m0,1;w0010;w301;").round(1), 0);
        due("at place 0 alone", laid("m0,1;w0101;").round(0), 1);
        due("at the last place alone", laid("m15,1;w1101;").round(0), 1);
    }

    private static void meet() {
        DrawnByLost x = laid("d2,4;m1,1;m7,2;w010;w310;w0101;w022;w120;");
        due("meet(0, 1)", x.meet(0, 1), 37);
        due("meet(1, 0)", x.meet(1, 0), 37);
        due("meet(0, 2)", x.meet(0, 2), 0);
        due("meet(0, 3)", x.meet(0, 3), 0);
        due("meet(4, 3)", x.meet(4, 3), 0);
        due("meet(0, 0)", x.meet(0, 0), BAD);
        due("meet(0, 5)", x.meet(0, 5), BAD);
        due("meet(5, 0)", x.meet(5, 0), BAD);
        for (int n : WRONG) {
            due("meet " + n, x.meet(n, 0), BAD);
            due("meet with " + n, x.meet(0, n), BAD);
        }
    }

    private static void road() {
        DrawnByLost x = laid("d3,3;m1,5;m4,5;m5,1;w000;");
        due("round the dear ones", x.road(0, 2, 0), 7);
        due("straight over", x.road(0, 2, 1), 1);
        due("from 2: the same", x.road(2, 0, 0), 7);
        due("from 2 by 1", x.road(2, 0, 1), 1);
        x.alter(1, 3);
        due("now it is 5", x.road(0, 2, 0), 5);
        due("the hunger of the first is not counted", x.road(1, 0, 0), 1);
        due("that of the last is", x.road(0, 1, 0), 4);
        due("two ways: the lowest", x.road(3, 7, 1), 6);
        due("itself", x.road(4, 4, 1), 4);
        due("itself", x.road(4, 4, 0), 0);
        due("by place 0", laid("m4,5;w000;").road(1, 4, 1), 0);
        due("round 4", x.road(3, 5, 0), 5);
        due("round 4", x.road(3, 5, 1), 6);
        DrawnByLost y = laid("h0,9;w000;");
        due("six steps of 9", y.road(0, 15, 0), 54);
        due("of several the lowest", y.road(0, 15, 1), 1);
        due("back: of several the lowest", y.road(15, 0, 1), 11);
        due("road(16, 0, 0)", y.road(16, 0, 0), BAD);
        due("road(0, 16, 0)", y.road(0, 16, 0), BAD);
        due("road(0, 0, 2)", y.road(0, 0, 2), BAD);
        for (int n : WRONG) {
            due("road from " + n, y.road(n, 0, 0), BAD);
            due("road to " + n, y.road(0, n, 0), BAD);
            due("road what " + n, y.road(0, 0, n), BAD);
        }
        DrawnByLost z = laid("m1,1;m2,2;m3,3;m4,4;m5,5;w000;");
        for (int mark = 1; mark < 4; mark++) due("hunger of mark " + mark, z.road(mark - 1, mark, 0), mark + 1);
        due("hunger of mark 4", z.road(0, 4, 0), 5);
        due("hunger of mark 5", z.road(1, 5, 0), 6);
        due("over four rows", laid("m0,3;m1,5;m2,5;m5,5;m6,5;m9,5;m10,5;w000;").road(4, 7, 0), 7);
    }

    private static void fear() {
        due("at first", new DrawnByLost().fear(), 0);
        DrawnByLost x = laid("d2,2;w012345;");
        due("all but 0", x.fear(), 62);
        for (int p = 0; p < 4; p++) x.alter(p, 5 - p);
        due("0 and 1", x.fear(), 3);
    }

    private static void lost() {
        DrawnByLost x = laid("d2,2;m0,1;w01000;w101;w010001;w300;w022;");
        due("lost(0, 0)", x.lost(0, 0), 25000);
        due("lost(0, 1)", x.lost(0, 1), 25000);
        due("lost(0, 2)", x.lost(0, 2), 12500);
        due("lost(0, 3)", x.lost(0, 3), 12500);
        due("lost(0, 4)", x.lost(0, 4), NO);
        due("lost(2, 4)", x.lost(2, 4), 6250);
        due("lost(2, 5)", x.lost(2, 5), BAD);
        due("lost(0, 5)", x.lost(0, 5), BAD);
        due("lost(1, 0)", x.lost(1, 0), NO);
        due("lost(3, 0)", x.lost(3, 0), NO);
        due("lost(4, 1)", x.lost(4, 1), 0);
        due("lost(4, 2)", x.lost(4, 2), NO);
        due("bad ahead of no", x.lost(1, 5), BAD);
        due("lost(5, 0)", x.lost(5, 0), BAD);
        for (int n : WRONG) {
            due("lost " + n, x.lost(n, 0), BAD);
            due("lost n " + n, x.lost(0, n), BAD);
        }
        DrawnByLost y = laid("d3,3;m4,1;w010;w001;w0010;");
        due("a ninth", y.lost(0, 0), 11111);
        due("a ninth goes on to a 0", y.lost(0, 1), 11111);
        due("four ninths by a third", y.lost(1, 1), 14814);
        due("and back to a 0", y.lost(2, 2), 14814);
        due("all", laid("w000000;").lost(0, 4), 100000);
    }

    private static void huts() {
        DrawnByLost x = laid("m0,2;m1,2;m5,2;m10,2;m15,2;m3,2;m4,2;w000;");
        due("huts(0)", x.huts(0), 4);
        due("huts(1)", x.huts(1), 4);
        x.alter(9, 2);
        due("joined", x.huts(0), 3);
        due("joined", x.huts(1), 6);
        due("not from one row's end to the next one's begin", laid("m3,2;m4,2;w000;").huts(0), 2);
        due("none", laid("m3,1;w000;").huts(0), 0);
        due("none", laid("m3,1;w000;").huts(1), 0);
        due("one at place 0", laid("m0,2;w000;").huts(0), 1);
        due("one at the last place", laid("m15,2;w000;").huts(0), 1);
        due("a winding one", laid("d4,4;m0,2;m1,2;m2,2;m3,2;m7,2;m11,2;m15,2;m14,2;m13,2;m12,2;m8,2;m9,2;w000;").huts(1), 12);
        due("huts(2)", x.huts(2), BAD);
        for (int n : WRONG) due("huts " + n, x.huts(n), BAD);
    }

    private static void flood() {
        DrawnByLost x = new DrawnByLost();
        for (int p = 0; p < 12; p++) x.alter(p, 0);
        x.alter(10, 1);
        x.alter(9, 2);
        for (int w = 0; w < 5; w++) x.strike(0);
        x.tell(0, 32);
        same("marks", marks(x), "000000000210");
        int behind = 0;
        int a = 10, b = 9;
        for (int week = 0; week < 40; week++) {
            long n = 7919L * 1234 + 6151L * week + 1;
            int draw = (int) (n * n % 65521 / 4);
            int p = draw % 12, q = draw / 16 % 12;
            a = a == p ? q : a == q ? p : a;
            b = b == p ? q : b == q ? p : b;
            int far = Math.abs(a / 4 - b / 4) + Math.abs(a % 4 - b % 4);
            if (behind == 0 && far != 1) behind = week + 1;
            due("flood of " + (week + 1), x.flood(1234, week + 1, 0), far == 1 ? 0 : 1);
            due("when of " + (week + 1), x.flood(1234, week + 1, 1), behind == 0 ? NONE : behind);
        }
        same("nothing is swapped", marks(x), "000000000210");
        due("count(3)", x.count(3), 8);
        for (int z : new int[] {10000, -1, Integer.MAX_VALUE, Integer.MIN_VALUE}) due("flood " + z, x.flood(z, 1, 0), BAD);
        for (int n : new int[] {0, 41, -1, Integer.MAX_VALUE, Integer.MIN_VALUE}) due("weeks " + n, x.flood(0, n, 0), BAD);
        for (int w : new int[] {2, -1, Integer.MAX_VALUE, Integer.MIN_VALUE}) due("what " + w, x.flood(0, 1, w), BAD);
        DrawnByLost y = laid("d2,2;m0,1;m1,1;w000;w033;w322;w001;");
        due("who lies anyhow", y.flood(9999, 40, 0) & 6, 6);
        due("behind the first week", y.flood(9999, 40, 1), 1);
        due("nobody ever", laid("w000;").flood(0, 40, 1), NONE);
        // z 1, week 0: x 7920, its square modulo 65521 is 22803, DRAW 5700: of 12 places 0 and (356) 8
        // week 1: x 14071, its square modulo 65521 is 54100, DRAW 13525: of 12 places 1 and (845) 5
        DrawnByLost first = laid("d3,4;m0,1;m1,2;w012;");
        due("week 0 by 1", first.flood(1, 1, 0), 1);
        due("behind the first week", first.flood(1, 2, 1), 1);
        DrawnByLost second = laid("d3,4;m1,1;m2,2;w012;");
        due("one week", second.flood(1, 1, 0), 0);
        due("one week", second.flood(1, 1, 1), NONE);
        due("two weeks", second.flood(1, 2, 0), 1);
        due("two weeks", second.flood(1, 2, 1), 2);
    }

    private static void keep() {
        DrawnByLost x = new DrawnByLost();
        due("keep", x.keep(), 1);
        x.alter(0, 5);
        due("keep", x.keep(), 2);
        due("keep", x.keep(), FULL);
        due("count(4)", x.count(4), 2);
        due("acts are still undone", x.undo(), 0);
        due("back", x.back(), 1);
        due("as it was kept", x.place(0, 0), 5);
        due("keep", x.keep(), 2);
    }

    private static void back() {
        DrawnByLost x = new DrawnByLost();
        due("back", x.back(), NO);
        x.keep();
        x.swap(4, 9);
        x.strike(0);
        x.keep();
        x.tell(3, 11);
        x.alter(4, 0);
        due("count(3)", x.count(3), 4);
        due("back", x.back(), 1);
        same("marks", marks(x), "012021040350");
        same("walks", walks(x), "w1213;w2354;w301;w0315;");
        due("count(3)", x.count(3), 0);
        due("undo", x.undo(), NO);
        x.alter(0, 1);
        due("back", x.back(), 0);
        same("marks", marks(x), "012031040250");
        same("walks", walks(x), "w0012;w1213;w2354;w301;w0315;");
        due("count(3)", x.count(3), 0);
        x.alter(0, 1);
        due("back", x.back(), NO);
        due("nothing changes then", x.count(3), 1);
        due("undo", x.undo(), 0);
    }

    private static void count() {
        DrawnByLost x = written("d3,2;w000;");
        x.lay();
        x.tell(0, 11);
        x.keep();
        x.alter(0, 0);
        int[] all = {6, 3, 2, 2, 1, 10};
        for (int n = 0; n < 6; n++) due("count " + n, x.count(n), all[n]);
        due("count(6)", x.count(6), BAD);
        for (int n : WRONG) due("count " + n, x.count(n), BAD);
    }

    private static final Runnable[] ALL = {PromiseTests::newObject, PromiseTests::write, PromiseTests::wipe,
        PromiseTests::fault, PromiseTests::lay, PromiseTests::place, PromiseTests::walk, PromiseTests::swap,
        PromiseTests::alter, PromiseTests::tell, PromiseTests::strike, PromiseTests::undo, PromiseTests::ways,
        PromiseTests::first, PromiseTests::ends, PromiseTests::lied, PromiseTests::nobody, PromiseTests::may,
        PromiseTests::moved, PromiseTests::known, PromiseTests::round, PromiseTests::meet, PromiseTests::road,
        PromiseTests::fear, PromiseTests::lost, PromiseTests::huts, PromiseTests::flood, PromiseTests::keep,
        PromiseTests::back, PromiseTests::count};

    public static void main(String[] args) {
        for (int i = 0; i < ALL.length; i++) {
            promise = "promise " + (i + 1);
            ALL[i].run();
        }
        System.out.println(wrong == 0 ? "all answers are as due" : wrong + " answers are not as due");
        if (wrong != 0) System.exit(1);
    }
}
