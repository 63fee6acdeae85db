/** Sentences of the document on THE TEXT and what it tells: promises 1 to 7. */
public final class TextSentencesTests {
    private static final int BAD = Sentences.BAD, NO = Sentences.NO, FULL = Sentences.FULL, NONE = Sentences.NONE;
    private static final String FIRST =
        "d3,4;m1,1;m2,2;m4,3;m5,1;m7,4;m9,2;m10,5;h5,2;w0012;w1213;w2354;w301;w0315;";

    private static void sentence(int promise, String words, Runnable test) {
        Sentences.sentence(promise, words, test);
    }

    private static void due(String call, int got, int want) {
        Sentences.due(call, got, want);
    }

    private static void same(String what, String got, String want) {
        Sentences.same(what, got, want);
    }

    private static void faultDue(String text, int want) {
        Sentences.faultDue(text, want);
    }

    private static DrawnByLost laid(String text) {
        return Sentences.laid(text);
    }

    private static void newObject() {
        sentence(1, "at first d3,4;m1,1;m2,2;m4,3;m5,1;m7,4;m9,2;m10,5;h5,2;w0012;w1213;w2354;w301;w0315;", () -> {
            DrawnByLost x = new DrawnByLost();
            same("marks", Sentences.marks(x), "012031040250");
            same("walks", Sentences.walks(x), "w0012;w1213;w2354;w301;w0315;");
            due("rows", x.count(1), 3);
            due("hunger of mark 5", x.road(9, 10, 0), 2);
            due("hunger of mark 4", x.road(3, 7, 0), 5);
            same("as if it were laid", String.valueOf(Sentences.look(() -> {
                DrawnByLost y = laid(FIRST);
                y.wipe();
                return y;
            })), String.valueOf(Sentences.look(DrawnByLost::new)));
        });
        sentence(1, "`DrawnByLost()`: As told.", () -> {
            DrawnByLost x = new DrawnByLost();
            int[] counts = {12, 3, 5, 0, 0, 0};
            for (int n = 0; n < 6; n++) due("count " + n, x.count(n), counts[n]);
            due("nothing can be undone", x.undo(), NO);
            due("nothing is kept", x.back(), NO);
            due("THE TEXT has no walk", x.lay(), NO);
            due("nor a fault", x.fault(), NONE);
            due("its first letter", x.write('d'), 1);
            DrawnByLost y = new DrawnByLost();
            y.alter(0, 5);
            y.strike(0);
            y.keep();
            due("another one's letters", x.count(5) + 10 * y.count(5), 1);
            due("another one's walks", x.count(2), 5);
            due("another one's marks", x.place(0, 0), 0);
            due("another one's acts", x.count(3), 0);
            due("another one's kept", x.count(4), 0);
        });
    }

    private static void calls() {
        sentence(1, "An object is used for at most 512 calls after it has been made;", () -> {
            DrawnByLost x = new DrawnByLost();
            for (int turn = 1; turn <= 170; turn++) {
                due("swap", x.swap(0, 1), turn % 2);
                due("acts", x.count(3), Math.min(turn, 8));
                if (turn % 2 == 0) due("lied", x.lied(), 20);
                else due("walks", x.count(2), 5);
            }
            due("the 511th", x.moved(1), 16 * 6 + 10);
            due("the 512th", x.known(4, 0), 3);
            DrawnByLost y = new DrawnByLost();
            for (int call = 1; call <= 511; call++) due("write or wipe", call % 3 == 0 ? y.wipe() : y.write('w'), call % 3 == 0 ? 2 : call % 3);
            due("the 512th", y.count(5), 1);
            DrawnByLost z = new DrawnByLost();
            for (int call = 1; call <= 511; call++) z.alter(call % 12, call % 6);
            due("the 512th", z.undo(), 7);
        });
    }

    private static void write() {
        sentence(2, "`int write(int letter)`: A letter (32 to 126, as in ASCII) comes behind THE TEXT: how long it is.", () -> {
            DrawnByLost x = new DrawnByLost();
            due("the letter ahead of the lowest", x.write(31), BAD);
            due("the lowest", x.write(32), 1);
            due("the highest", x.write(126), 2);
            due("the letter behind the highest", x.write(127), BAD);
            due("a letter's number and 256", x.write('w' + 256), BAD);
            due("a letter's number and 65536", x.write('w' + 65536), BAD);
            due("two are written", x.count(5), 2);
            DrawnByLost y = new DrawnByLost();
            for (int n = 32; n <= 126; n++) due("write " + n, y.write(n), n - 31);
            DrawnByLost z = Sentences.written("w000;");
            for (char letter : "m1,3;".toCharArray()) z.write(letter);
            z.lay();
            due("the letters stand in their order", z.place(1, 0), 3);
        });
        sentence(2, "A TEXT is letters (200 at most)", () -> {
            DrawnByLost x = new DrawnByLost();
            for (int n = 1; n <= 200; n++) due("write " + n, x.write(Sentences.LONG_TEXT.charAt(n - 1)), n);
            due("the 201st", x.write(';'), FULL);
            due("once more", x.write('x'), FULL);
            due("how long it is", x.count(5), 200);
            due("the 200th counts", x.fault(), NONE);
            due("it is laid", x.lay(), 6);
            due("by its last item", x.place(5, 0), 3);
            due("wipe", x.wipe(), 200);
            due("there is room again", x.write('w'), 1);
        });
        sentence(2, "BAD; FULL.", () -> {
            DrawnByLost x = Sentences.written(Sentences.LONG_TEXT);
            due("a letter", x.write(126), FULL);
            due("what is no letter", x.write(127), BAD);
            due("what is no letter", x.write(-5), BAD);
        });
    }

    private static void wipe() {
        sentence(3, "THE TEXT is empty: how long it was.", () -> {
            DrawnByLost x = new DrawnByLost();
            due("wipe of nothing", x.wipe(), 0);
            Sentences.put(x, "x");
            due("of one", x.wipe(), 1);
            due("again", x.wipe(), 0);
            Sentences.put(x, Sentences.LONG_TEXT);
            due("of a full one", x.wipe(), 200);
            due("how long it is", x.count(5), 0);
            due("no fault", x.fault(), NONE);
            due("no walk", x.lay(), NO);
            Sentences.put(x, "w0");
            due("what was wiped does not come behind it", x.fault(), 0);
        });
        sentence(3, "`int wipe()`: THE TEXT is empty", () -> {
            DrawnByLost x = laid("d2,2;m0,1;w001;");
            x.alter(1, 1);
            x.keep();
            x.wipe();
            same("marks stay", Sentences.marks(x), "1100");
            same("walks stay", Sentences.walks(x), "w001;");
            due("what can be undone stays", x.count(3), 1);
            due("what is kept stays", x.count(4), 1);
        });
    }

    private static void items() {
        sentence(4, "ITEMS one behind the other, each a letter, then what it tells, and a ; behind it", () -> {
            faultDue("", NONE);
            faultDue("m1,1;", NONE);
            faultDue("m1,1;m2,2;h1,1;w012;", NONE);
            for (String none : new String[] {";", "1,1;", ",", " m1,1;", "m1,1 ;", "m 1,1;", "m1 ,1;", "m1, 1;", "m;", "m1;",
                "m1,;", "m,1;", "m1,1,;", "m1,1,1;", "m1.1;", "m1;1;", "m1,1:", "M1,1;", "x1,1;", "D2,2;", "W012;", "H1,1;",
                "m+1,1;", "m-1,1;", "m1,-1;", "mm1,1;", "m1,1w012;", "w0,1,2;", "w 012;", "w012 ;", "w0 12;", "w01,2;"}) {
                faultDue(none, 0);
                faultDue("w012;" + none, 5);
            }
            faultDue("m1,1;;", 5);
            faultDue("m1,1; ", 5);
            faultDue("m1,1;\u007e", 5);
        });
        sentence(4, "and a ; behind it", () -> {
            for (String item : new String[] {"d2,2", "m1,1", "h1,1", "w012", "w001234"}) {
                faultDue(item, 0);
                faultDue(item + ";", NONE);
                faultDue("d3,3;" + item, 5);
            }
            for (String begun : new String[] {"d", "d2", "d2,", "m", "m1", "m1,", "h", "h1", "h1,", "w", "w0", "w01", "d12", "m12,12"}) {
                faultDue(begun, 0);
                faultDue("d2,2;" + begun, 5);
            }
        });
        sentence(4, "FAULT: the place of the first letter of the first ITEM that is not so.", () -> {
            faultDue("x", 0);
            faultDue("w012;x", 5);
            faultDue("w012;x;y;", 5);
            faultDue("w0012;m16,0;m17,0;", 6);
            faultDue("w00123;h6,1;w012;", 7);
            faultDue("w00123;h06,01;", 7);
            faultDue("m01,01;m1,01;m01,1;m1,1;z", 24);
            DrawnByLost x = Sentences.written(Sentences.LONG_TEXT.substring(0, 199));
            due("the last ; is missing", x.fault(), 193);
            x.write('.');
            due("another letter in its place", x.fault(), 193);
            DrawnByLost y = Sentences.written("w012;".repeat(5) + "m1,1;".repeat(34) + "w0123");
            due("a sixth walk, not ended", y.fault(), 195);
        });
        sentence(4, "`int fault()`: FAULT. NONE.", () -> {
            due("of no text", new DrawnByLost().fault(), NONE);
            DrawnByLost x = Sentences.written("m1,1");
            due("not ended", x.fault(), 0);
            x.write(';');
            due("ended", x.fault(), NONE);
            due("asked again", x.fault(), NONE);
            due("no walk is no fault", x.lay(), NO);
        });
    }

    private static void deltas() {
        sentence(4, "dR,C a DELTA of R rows of C PLACES (2 to 4 each;", () -> {
            for (int r = 0; r <= 6; r++) {
                for (int c = 0; c <= 6; c++) {
                    boolean fits = r >= 2 && r <= 4 && c >= 2 && c <= 4;
                    faultDue("d" + r + "," + c + ";w000;", fits ? NONE : 0);
                    if (!fits) continue;
                    DrawnByLost x = laid("d" + r + "," + c + ";w000;");
                    due("places", x.count(0), r * c);
                    due("rows", x.count(1), r);
                    due("the last place", x.place(r * c - 1, 0), 0);
                    due("none behind it", x.place(r * c, 0), BAD);
                }
            }
            for (String many : new String[] {"d12,2;", "d2,12;", "d20,2;", "d02,10;", "d99,99;", "d00,02;"}) faultDue(many, 0);
        });
        sentence(4, "4, 4 without;", () -> {
            DrawnByLost x = laid("w000;");
            due("places", x.count(0), 16);
            due("rows", x.count(1), 4);
            faultDue("m15,1;", NONE);
            faultDue("m16,1;", 0);
            DrawnByLost y = laid("d2,2;w000;");
            y.wipe();
            Sentences.put(y, "w000;");
            due("not as it was laid ahead", y.lay(), 16);
        });
        sentence(4, "no other ITEM ahead of it but d)", () -> {
            faultDue("m1,1;d2,2;", 5);
            faultDue("h1,1;d2,2;", 5);
            faultDue("w012;d2,2;", 5);
            faultDue("d2,2;m1,1;d2,2;", 10);
            faultDue("d2,2;d2,2;h1,1;d2,2;", 15);
            faultDue("d2,2;d4,4;d3,2;w012;", NONE);
            DrawnByLost x = laid("d2,2;d4,4;d3,2;m5,1;w012;");
            due("places", x.count(0), 6);
            due("rows", x.count(1), 3);
            faultDue("d4,4;d3,2;m6,1;", 10);
            faultDue("d3,2;d4,4;m15,1;", NONE);
        });
        sentence(4, "PLACE 0 is the first of the first row, then along it, row by row", () -> {
            // in 2 rows of 3, beside 0 are 1 and 3; in 3 rows of 2 they are 1 and 2
            due("two rows of three", laid("d2,3;m0,1;w010;").ends(0), 1 << 1 | 1 << 3);
            due("three rows of two", laid("d3,2;m0,1;w010;").ends(0), 1 << 1 | 1 << 2);
            due("beside the last of two rows of four", laid("d2,4;m7,1;w010;").ends(0), 1 << 3 | 1 << 6);
            due("beside the last of four rows of two", laid("d4,2;m7,1;w010;").ends(0), 1 << 5 | 1 << 6);
        });
    }

    private static void marksAndHunger() {
        sentence(4, "mX,M PLACE X has MARK M (0 to 5; 0 without; the last one of each)", () -> {
            faultDue("m0,0;", NONE);
            faultDue("m0,5;", NONE);
            faultDue("m0,6;", 0);
            faultDue("m0,9;", 0);
            faultDue("m0,10;", 0);
            faultDue("m15,0;", NONE);
            faultDue("m16,0;", 0);
            faultDue("m99,0;", 0);
            for (int r = 2; r <= 4; r++) {
                for (int c = 2; c <= 4; c++) {
                    faultDue("d" + r + "," + c + ";m" + (r * c - 1) + ",1;", NONE);
                    faultDue("d" + r + "," + c + ";m" + r * c + ",1;", 5);
                }
            }
            same("0 without", Sentences.marks(laid("d2,3;m4,5;w000;")), "000050");
            DrawnByLost x = laid("m0,1;m1,1;m2,1;m3,1;m4,1;m5,1;m6,1;m7,1;m8,1;m9,1;m10,1;m11,1;m12,1;m13,1;m14,1;m15,1;w011;");
            same("with", Sentences.marks(x), "1111111111111111");
            x.wipe();
            Sentences.put(x, "w000;");
            due("laid without", x.lay(), 16);
            same("not as it was laid ahead", Sentences.marks(x), "0000000000000000");
            same("the last one of each", Sentences.marks(laid("d2,3;m4,5;m1,2;m4,3;m1,1;m2,4;m2,0;w000;")), "010030");
        });
        sentence(4, "hM,H to come to a PLACE of MARK M takes H (1 to 9) HUNGER (M and 1 without; the last one of each)", () -> {
            faultDue("h0,1;", NONE);
            faultDue("h0,9;", NONE);
            faultDue("h0,0;", 0);
            faultDue("h0,00;", 0);
            faultDue("h0,10;", 0);
            faultDue("h5,1;", NONE);
            faultDue("h6,1;", 0);
            faultDue("h9,1;", 0);
            faultDue("h10,1;", 0);
            for (int m = 0; m < 6; m++) {
                due("without, mark " + m, laid("d2,2;m1," + m + ";w000;").road(0, 1, 0), m + 1);
                due("with, mark " + m, laid("d2,2;m1," + m + ";h" + m + ",9;w000;").road(0, 1, 0), 9);
                due("the last one, mark " + m, laid("d2,2;m1," + m + ";h" + m + ",9;h" + m + ",8;w000;").road(0, 1, 0), 8);
                due("of another mark", laid("d2,2;m1," + m + ";h" + (m + 1) % 6 + ",9;w000;").road(0, 1, 0), m + 1);
            }
            DrawnByLost x = laid("d2,2;h0,7;h1,7;h2,7;h3,7;h4,7;h5,7;w000;");
            x.wipe();
            Sentences.put(x, "d2,2;w000;");
            x.lay();
            for (int m = 0; m < 6; m++) {
                x.alter(1, m);
                due("not as it was laid ahead, mark " + m, x.road(0, 1, 0), m + 1);
            }
        });
        sentence(4, "Numbers of d, m, h have one or two figures.", () -> {
            for (String fits : new String[] {"d02,2;", "d2,02;", "d04,04;", "m01,1;", "m1,01;", "m00,00;", "m15,05;", "h01,1;",
                "h1,09;", "h05,01;"}) faultDue(fits, NONE);
            for (String none : new String[] {"d002,2;", "d2,002;", "m001,1;", "m1,001;", "m000,0;", "h001,1;", "h1,001;", "d,2;",
                "d2,;", "m,1;", "m1,;", "h,1;", "h1,;", "d,;", "m150,1;", "m1,100;"}) faultDue(none, 0);
            same("of two figures", Sentences.marks(laid("d03,04;m11,1;m09,04;w000;")), "000000000401");
        });
    }

    private static void walksOfTheText() {
        sentence(4, "wKABC.. a WALK of a walker of KIND K (0 PLAIN, 1 TURNED, 2 HUNGRY, 3 LIAR)", () -> {
            for (int k = 0; k < 10; k++) faultDue("w" + k + "012;", k < 4 ? NONE : 0);
            faultDue("w-012;", 0);
            faultDue("wx12;", 0);
            // from 0 of 1 alone: beside are 1 and 4; two away 2, 5, 8; 10 too far
            DrawnByLost x = laid("m0,1;m1,2;m2,3;m10,4;w012;w121;w213;w314;w013;");
            due("ends of the first four", x.ends(0) | x.ends(1) | x.ends(2) | x.ends(3), 1 << 1 | 1 << 1 | 1 << 2 | 1 << 10);
            due("who lied", x.lied(), 16);
        });
        sentence(4, "who went past MARKS A, B, C, .. (two to five figures 0 to 5); 5 at most, 0, 1, ..", () -> {
            faultDue("w0;", 0);
            faultDue("w00;", 0);
            faultDue("w000;", NONE);
            faultDue("w000000;", NONE);
            faultDue("w0000000;", 0);
            faultDue("w00000000;", 0);
            for (int figure = 0; figure < 10; figure++) {
                faultDue("w0" + figure + "0;", figure < 6 ? NONE : 0);
                faultDue("w00000" + figure + ";", figure < 6 ? NONE : 0);
            }
            faultDue("w012;".repeat(5), NONE);
            faultDue("w012;".repeat(6), 25);
            faultDue("w012;".repeat(5) + "m1,1;w", 30);
            faultDue("w012;".repeat(5) + "m1,1;h1,1;", NONE);
            same("0, 1, ..", Sentences.walks(laid("w012345;m1,1;w100;w2555;w30123;w054;")), "w012345;w100;w2555;w30123;w054;");
        });
    }

    private static void lay() {
        sentence(5, "LAID is a TEXT without FAULT, of a WALK at least (NO else;", () -> {
            due("of a walk", Sentences.written("w000;").lay(), 16);
            for (String text : new String[] {"", "d2,2;", "d2,2;m1,1;h1,1;", "w000;x", "x;w000;", "w000;d2,2;", "w000", "w00;"}) {
                DrawnByLost x = Sentences.written(text);
                x.alter(0, 5);
                x.keep();
                due("lay of " + text, x.lay(), NO);
                same("marks stay", Sentences.marks(x), "512031040250");
                same("walks stay", Sentences.walks(x), "w0012;w1213;w2354;w301;w0315;");
                due("hunger stays", x.road(9, 10, 0), 2);
                due("what can be undone stays", x.count(3), 1);
                due("what is kept stays", x.count(4), 1);
                due("THE TEXT stays", x.count(5), text.length());
            }
        });
        sentence(5, "`int lay()`: LAID: how many PLACES; nothing UNDONE, KEPT. NO.", () -> {
            for (int r = 2; r <= 4; r++) {
                for (int c = 2; c <= 4; c++) due("lay", Sentences.written("d" + r + "," + c + ";w000;").lay(), r * c);
            }
            DrawnByLost x = Sentences.written("d2,2;m3,4;w101;");
            x.swap(0, 1);
            x.keep();
            x.keep();
            due("lay", x.lay(), 4);
            due("what can be undone", x.count(3), 0);
            due("what is kept", x.count(4), 0);
            due("undo", x.undo(), NO);
            due("back", x.back(), NO);
            same("marks", Sentences.marks(x), "0004");
            same("walks", Sentences.walks(x), "w101;");
            x.alter(0, 5);
            due("lay of the same text again", x.lay(), 4);
            same("marks", Sentences.marks(x), "0004");
            due("THE TEXT is still there", x.wipe(), 15);
            same("and when it is wiped, what is laid", Sentences.marks(x), "0004");
        });
    }

    private static void place() {
        sentence(6, "`int place(int x, int what)`: Of a PLACE: MARK (what = 0), SEES (1). BAD.", () -> {
            for (int r = 2; r <= 4; r++) {
                for (int c = 2; c <= 4; c++) {
                    DrawnByLost x = laid("d" + r + "," + c + ";m0,5;m" + (r * c - 1) + ",4;w000;");
                    due("mark of the first", x.place(0, 0), 5);
                    due("mark of the last", x.place(r * c - 1, 0), 4);
                    due("sees of the first", x.place(0, 1), r + c - 2);
                    due("ahead of the first", x.place(-1, 0), BAD);
                    due("behind the last", x.place(r * c, 0), BAD);
                    due("sees behind the last", x.place(r * c, 1), BAD);
                    due("what = -1", x.place(0, -1), BAD);
                    due("what = 2", x.place(0, 2), BAD);
                }
            }
        });
        sentence(6, "SEES: how many PLACES in row and column of a PLACE, itself not, till the first one of MARK 1 in each direction, that one, too.",
            TextSentencesTests::seesOneOfMark1);
    }

    /** For each place and each other one of mark 1: of the row and the column, what is behind that one is not seen. */
    private static void seesOneOfMark1() {
        for (int r = 2; r <= 4; r++) {
            for (int c = 2; c <= 4; c++) {
                for (int p = 0; p < r * c; p++) {
                    DrawnByLost x = laid("d" + r + "," + c + ";m" + p + ",1;w000;");
                    for (int q = 0; q < r * c; q++) {
                        int behind = 0;
                        if (p != q && p / c == q / c) behind = p > q ? c - 1 - p % c : p % c;
                        if (p != q && p % c == q % c) behind = p > q ? r - 1 - p / c : p / c;
                        due("place " + q + " sees, mark 1 at " + p + " of " + r + "," + c, x.place(q, 1), r + c - 2 - behind);
                    }
                }
            }
        }
        due("two of mark 1 one behind the other", laid("m1,1;m2,1;w000;").place(0, 1), 4);
        due("one in each direction", laid("m1,1;m4,1;m6,1;m9,1;w000;").place(5, 1), 4);
        due("other marks hide nothing", laid("m1,2;m2,3;m4,5;w000;").place(0, 1), 6);
        due("all of mark 1", laid("m5,1;m4,1;m6,1;m1,1;m9,1;m0,1;m2,1;w000;").place(5, 1), 4);
    }

    private static void walk() {
        sentence(7, "`int walk(int w, int k)`: Of a WALK: KIND (k = -2), how many MARKS (-1), the k-th (0 first; NONE: there are not so many). BAD.", () -> {
            DrawnByLost x = laid("w001;w1012;w20123;w301234;");
            for (int w = 0; w < 4; w++) {
                due("kind of " + w, x.walk(w, -2), w);
                due("how many of " + w, x.walk(w, -1), w + 2);
                for (int k = 0; k < 8; k++) due("walk " + w + " " + k, x.walk(w, k), k < w + 2 ? k : NONE);
                due("k = -3", x.walk(w, -3), BAD);
                due("the lowest k", x.walk(w, Sentences.MIN), BAD);
                due("the highest k", x.walk(w, Sentences.MAX), NONE);
            }
            for (int k = -3; k < 3; k++) {
                due("behind the last " + k, x.walk(4, k), BAD);
                due("ahead of the first " + k, x.walk(-1, k), BAD);
            }
            x.tell(0, 66);
            due("told behind it", x.walk(4, 1), 5);
            due("told behind it, no third", x.walk(4, 2), NONE);
            x.strike(3);
            due("of two marks in the place of one of five", x.walk(3, 2), NONE);
            due("and none behind it", x.walk(4, 0), BAD);
            due("of a turned one in the order told", laid("w1345;").walk(0, 0), 3);
        });
    }

    public static void main(String[] args) {
        newObject();
        calls();
        write();
        wipe();
        items();
        deltas();
        marksAndHunger();
        walksOfTheText();
        lay();
        place();
        walk();
        Sentences.end();
    }
}
