/** Sentences of the document on walks: promises 13 to 22. */
public final class WalkSentencesTests {
    private static final int BAD = Sentences.BAD, NONE = Sentences.NONE;
    private static final int MIN = Sentences.MIN, MAX = Sentences.MAX;
    /** For each shape (2,2 then 2,3 ..) how many rows of two, three, four, five places there are. */
    private static final int[][] ROWS_BESIDE = {{8, 16, 32, 64}, {14, 34, 82, 198}, {20, 52, 136, 356}, {14, 34, 82, 198},
        {24, 68, 192, 544}, {34, 102, 308, 934}, {20, 52, 136, 356}, {34, 102, 308, 934}, {48, 152, 488, 1576}};
    private static final int[][] ROWS_WITHIN_TWO = {{12, 36, 108, 324}, {26, 114, 498, 2178}, {40, 208, 1072, 5536},
        {26, 114, 498, 2178}, {52, 308, 1816, 10720}, {78, 530, 3590, 24330}, {40, 208, 1072, 5536}, {78, 530, 3590, 24330},
        {116, 892, 6864, 52820}};

    private static void sentence(int promise, String words, Runnable test) {
        Sentences.sentence(promise, words, test);
    }

    private static void due(String call, int got, int want) {
        Sentences.due(call, got, want);
    }

    private static DrawnByLost laid(String text) {
        return Sentences.laid(text);
    }

    /** How far apart two places are for a walker of this kind to lie from the one to the other. */
    private interface Step {
        boolean fits(int rowsApart, int columnsApart);
    }

    /** Mark 1 at one place, mark 2 at another one, of all shapes: whether this walk from 1 to 2 lies. */
    private static void fromOneToTwo(String walk, Step step) {
        for (int r = 2; r <= 4; r++) {
            for (int c = 2; c <= 4; c++) {
                for (int x = 0; x < r * c; x++) {
                    for (int y = 0; y < r * c; y++) {
                        if (x == y) continue;
                        DrawnByLost d = laid("d" + r + "," + c + ";m" + x + ",1;m" + y + ",2;" + walk);
                        boolean fits = step.fits(Math.abs(x / c - y / c), Math.abs(x % c - y % c));
                        String name = walk + " in " + r + "," + c + " from " + x + " to " + y;
                        due(name + ": ways", d.ways(0), fits ? 1 : 0);
                        due(name + ": first", d.first(0, 0), fits ? x : NONE);
                        due(name + ": second", d.first(0, 1), fits ? y : NONE);
                        due(name + ": ends", d.ends(0), fits ? 1 << y : 0);
                        due(name + ": lied", d.lied(), fits ? 0 : 1);
                    }
                }
            }
        }
    }

    private static void kinds() {
        sentence(13, "PLACES are BESIDE each other up, down, right, left.", () ->
            fromOneToTwo("w012;", (rows, columns) -> rows + columns == 1));
        sentence(13, "of a TURNED one likewise, the MARKS in the other order;", () ->
            fromOneToTwo("w121;", (rows, columns) -> rows + columns == 1));
        sentence(13, "of a HUNGRY one in order, each other than the one ahead and no more than 2 rows and columns together from it;", () -> {
            fromOneToTwo("w212;", (rows, columns) -> rows + columns <= 2);
            due("not the one where he is", laid("m0,1;w211;").ways(0), 0);
            due("nor by the way", laid("m0,1;m4,2;w2112;").ways(0), 0);
        });
        sentence(13, "of a LIAR in order, each another PLACE than the one ahead, anywhere.", () -> {
            fromOneToTwo("w312;", (rows, columns) -> true);
            due("not the one where he is", laid("m0,1;w311;").ways(0), 0);
            due("nor by the way", laid("m0,1;m4,2;w3112;").ways(0), 0);
            for (String walk : new String[] {"w350;", "w305;", "w3050;", "w3500;", "w3005;", "w30500;"}) {
                DrawnByLost nowhere = laid("d2,2;" + walk);
                due(walk + " ways, 5 is nowhere", nowhere.ways(0), 0);
                due(walk + " ends, 5 is nowhere", nowhere.ends(0), 0);
                due(walk + " first, 5 is nowhere", nowhere.first(0, 0), NONE);
                due(walk + " round, 5 is nowhere", nowhere.round(0), 0);
                due(walk + " lied, 5 is nowhere", nowhere.lied(), 1);
                due(walk + " nobody, 5 is nowhere", nowhere.nobody(), 15);
            }
            due("from one corner to the other", laid("m0,1;m15,1;w311;").ways(0), 2);
            due("ends", laid("m0,1;m15,1;w311;").ends(0), 1 | 1 << 15);
        });
        sentence(13, "of a PLAIN one that have these MARKS in order, each BESIDE the one ahead of it;", () -> {
            due("not the one where he is", laid("m0,1;w011;").ways(0), 0);
            due("nor by the way", laid("m0,1;m4,2;w0112;").ways(0), 0);
            DrawnByLost x = laid("d2,3;m0,1;m1,2;m2,3;w0123;w0132;w0321;w013;w0123;");
            due("in order", x.ways(0), 1);
            due("not in order", x.ways(1), 0);
            due("the other order", x.ways(2), 1);
            due("one left out", x.ways(3), 0);
            DrawnByLost y = laid("d2,3;m0,1;m1,2;m2,3;w1123;w1321;w1213;");
            due("turned: ends where the first mark is", y.ends(0), 1);
            due("turned: ends where the first mark is", y.ends(1), 1 << 2);
            due("turned, none in this order", y.ends(2), 0);
        });
        sentence(13, "A WALK can LIE along a row of PLACES, as many as its MARKS:", () -> {
            DrawnByLost x = laid("d2,4;m0,1;m1,2;m2,3;m3,4;m7,5;w012;w0123;w01234;w012345;");
            for (int w = 0; w < 4; w++) {
                due("first place of " + w, x.first(w, 0), 0);
                due("last place of " + w, x.first(w, w + 1), w == 3 ? 7 : w + 1);
                due("none behind it", x.first(w, w + 2), NONE);
                due("ends of " + w, x.ends(w), 1 << (w == 3 ? 7 : w + 1));
            }
        });
        sentence(13, "A PLACE may come more than once.", () -> {
            DrawnByLost x = laid("m5,1;w0101;w1101;w2101;w3101;w01010;");
            int[] ways = {4, 4, 10, 15};
            for (int w = 0; w < 4; w++) due("there and back " + w, x.ways(w), ways[w]);
            due("there and back and there", x.ways(4), 16);
            due("first", x.first(0, 0) * 100 + x.first(0, 1) * 10 + x.first(0, 2), 515);
        });
        sentence(21, "It BEGINS in the first one, ENDS in the last one.", () -> {
            DrawnByLost x = laid("d2,3;m0,1;m1,2;w012;w112;w212;w312;");
            int[] last = {1, 0, 1, 1};
            for (int w = 0; w < 4; w++) {
                due("ends " + w, x.ends(w), 1 << last[w]);
                due("begins " + w, x.first(w, 0), 1 - last[w]);
            }
        });
    }

    private static void ways() {
        sentence(13, "WAYS of a WALK: along how many rows it can LIE;", () -> {
            int shape = 0;
            for (int r = 2; r <= 4; r++) {
                for (int c = 2; c <= 4; c++, shape++) {
                    for (int kind = 0; kind < 4; kind++) {
                        DrawnByLost x = laid("d" + r + "," + c + ";w" + kind + "00;w" + kind + "000;w" + kind + "0000;w" + kind + "00000;");
                        int liars = r * c;
                        for (int w = 0; w < 4; w++) {
                            liars *= r * c - 1;
                            int want = kind == 3 ? liars : kind == 2 ? ROWS_WITHIN_TWO[shape][w] : ROWS_BESIDE[shape][w];
                            due("of kind " + kind + ", " + (w + 2) + " marks in " + r + "," + c, x.ways(w), want);
                        }
                    }
                }
            }
            due("a mark that is nowhere", laid("w005;").ways(0), 0);
        });
        sentence(13, "`int ways(int w)`: WAYS. BAD.", () -> {
            DrawnByLost x = laid("w000;w005;");
            due("ways(0)", x.ways(0), 48);
            due("ways(1)", x.ways(1), 0);
            for (int n : new int[] {2, -1, MIN, MAX}) due("ways " + n, x.ways(n), BAD);
            x.strike(0);
            due("ways(0) behind a strike", x.ways(0), 0);
            due("ways(1) behind a strike", x.ways(1), BAD);
        });
    }

    private static void first() {
        sentence(14, "the first of these (by the first PLACE, the lowest, then the second, ..)", () -> {
            DrawnByLost x = laid("w0000;w3000;w2000;w1000;");
            int[][] rows = {{0, 1, 0}, {0, 1, 0}, {0, 1, 0}, {0, 1, 0}};
            for (int w = 0; w < 4; w++) for (int k = 0; k < 3; k++) due("first " + w + " " + k, x.first(w, k), rows[w][k]);
            // 0 of mark 1 has no 2 beside it; from 3 it is 2 and not 7, as behind 7 there is no 3
            DrawnByLost y = laid("d2,4;m0,1;m3,1;m2,2;m7,2;m6,3;m1,3;w0123;w0124;");
            due("not the lowest place of mark 1", y.first(0, 0), 3);
            due("the lower of two", y.first(0, 1), 2);
            due("the lower of two", y.first(0, 2), 1);
            y.alter(1, 0);
            due("the other of two", y.first(0, 2), 6);
            y.alter(6, 0);
            due("no way at all", y.first(0, 0), NONE);
            // from 0 to 1 leads to no 3, from 0 to 4 does
            DrawnByLost z = laid("d2,4;m0,1;m1,2;m4,2;m5,4;w012;w0120;w01240;");
            due("the lowest second", z.first(0, 1), 1);
            due("by 1 to 2", z.first(1, 1) * 10 + z.first(1, 2), 12);
            due("by 1 and 5 to 6", z.first(2, 2) * 10 + z.first(2, 3), 56);
            DrawnByLost v = laid("d3,3;m0,1;m1,2;m3,2;m6,3;w0123;w1321;");
            due("the lowest second leads nowhere", v.first(0, 1), 3);
            due("a turned one: the row's own order", v.first(1, 0) * 100 + v.first(1, 1) * 10 + v.first(1, 2), 36);
            // a turned one of 1 2: its row begins with the 2; from 1 to 0 stands ahead of from 4 to 5
            due("by the row's first place", laid("d2,4;m1,2;m0,1;m4,2;m5,1;w112;").first(0, 0), 1);
            due("a liar's second may be lower", laid("m15,1;m14,2;m1,2;w312;").first(0, 1), 1);
        });
        sentence(14, "`int first(int w, int k)`: The k-th PLACE (0 first) of the first of its WAYS. NONE: there is none; BAD.", () -> {
            DrawnByLost x = laid("m1,1;m2,2;w012;w0012;w005;w155;");
            due("first(0, 0)", x.first(0, 0), 1);
            due("first(0, 1)", x.first(0, 1), 2);
            due("first(0, 2)", x.first(0, 2), NONE);
            due("first(0, max)", x.first(0, MAX), NONE);
            due("first(1, 2)", x.first(1, 2), 2);
            due("first(1, 3)", x.first(1, 3), NONE);
            for (int w = 2; w < 4; w++) for (int k = 0; k < 6; k++) due("first " + w + " " + k, x.first(w, k), NONE);
            due("first(0, -1)", x.first(0, -1), BAD);
            due("first(0, min)", x.first(0, MIN), BAD);
            for (int n : new int[] {4, -1, MIN, MAX}) due("first " + n, x.first(n, 0), BAD);
        });
    }

    private static void ends() {
        sentence(15, "ENDS: PLACES (bits) in which it may END.", () -> {
            DrawnByLost x = laid("m5,1;w010;w101;w210;w310;w015;");
            due("plain: beside it", x.ends(0), 1 << 1 | 1 << 4 | 1 << 6 | 1 << 9);
            due("turned: the same", x.ends(1), 1 << 1 | 1 << 4 | 1 << 6 | 1 << 9);
            due("hungry: within two", x.ends(2), 1 | 1 << 1 | 1 << 2 | 1 << 4 | 1 << 6 | 1 << 7 | 1 << 8 | 1 << 9 | 1 << 10 | 1 << 13);
            due("a liar: anywhere else", x.ends(3), 0xffff & ~(1 << 5));
            due("none", x.ends(4), 0);
            due("all", laid("w000;").ends(0), 0xffff);
            due("all of four", laid("d2,2;w000;").ends(0), 15);
            due("place 0 alone", laid("m0,1;w001;").ends(0), 1);
            due("the last one alone", laid("m15,1;w001;").ends(0), 1 << 15);
        });
        sentence(15, "`int ends(int w)`: ENDS, as bits. BAD.", () -> {
            DrawnByLost x = new DrawnByLost();
            for (int n : new int[] {5, -1, MIN, MAX}) due("ends " + n, x.ends(n), BAD);
            x.strike(0);
            due("behind a strike", x.ends(4), BAD);
        });
    }

    private static void liedAndNobody() {
        sentence(16, "LIED: WALKS (bits) that can LIE nowhere.", () -> {
            DrawnByLost x = laid("d2,2;m0,1;m3,1;w011;w211;w111;w311;w022;");
            due("plain, turned ones of 1 1, a mark that is nowhere", x.lied(), 1 | 4 | 16);
            x.alter(1, 1);
            due("two of mark 1 beside each other", x.lied(), 16);
            x.alter(2, 2);
            due("one of mark 2", x.lied(), 16);
            x.swap(2, 3);
            x.strike(0);
            due("those behind it come one down", x.lied(), 8);
            x.strike(3);
            due("nobody", x.lied(), 0);
            due("all five", laid("w001;w101;w201;w301;w011;").lied(), 31);
        });
        sentence(16, "`int lied()`: LIED, as bits.", () -> {
            for (int w = 0; w < 5; w++) {
                StringBuilder text = new StringBuilder("d2,2;");
                for (int v = 0; v < 5; v++) text.append(v == w ? "w005;" : "w000;");
                due("walk " + w + " alone", laid(text.toString()).lied(), 1 << w);
            }
            DrawnByLost x = laid("d2,2;w005;w000;");
            x.strike(0);
            x.strike(0);
            due("no walk", x.lied(), 0);
        });
        sentence(17, "NOBODY: PLACES (bits) that are in no row along which any WALK can LIE.", () -> {
            DrawnByLost x = laid("d2,4;m1,1;m7,2;w010;w021;");
            due("1 and those beside it", x.nobody(), 0xff & ~(1 << 1 | 1 | 1 << 2 | 1 << 5));
            x.tell(3, 32);
            due("none of 2 1 nearer, a liar goes there", x.nobody(), 0xff & ~(1 << 1 | 1 | 1 << 2 | 1 << 5 | 1 << 7));
            x.strike(0);
            due("the liar alone", x.nobody(), 0xff & ~(1 << 1 | 1 << 7));
            x.strike(1);
            due("one who lied went past none", x.nobody(), 0xff);
            x.strike(0);
            due("no walk at all", x.nobody(), 0xff);
            due("all were passed", laid("w000;").nobody(), 0);
            // 0 1 3 leads by the 1 of place 1, that of place 7 stands beside no 3
            due("what is on no whole row", laid("d2,4;m1,1;m2,3;m7,1;w0013;").nobody(), 0xff & ~(1 | 1 << 1 | 1 << 2 | 1 << 5));
            due("places of all rows of a walk", laid("d2,4;m0,1;m3,1;w010;").nobody(), 1 << 5 | 1 << 6);
            due("none of 16 is passed", laid("w001;").nobody(), 0xffff);
        });
        sentence(17, "`int nobody()`: NOBODY, as bits.", () -> {
            for (int p = 0; p < 16; p++) {
                // all are passed but the one whose mark nobody tells
                due("place " + p + " alone", laid("m" + p + ",5;w000;").nobody(), 1 << p);
            }
        });
    }

    private static void may() {
        sentence(18, "MAY of a PLACE: MARKS (bits) by which, were it of that, nobody would have LIED.", () -> {
            DrawnByLost x = laid("d2,2;m0,1;w001;w012;");
            due("of the only 1", x.may(0), 0);
            due("beside it: 2", x.may(1), 4);
            due("beside it: 2", x.may(2), 4);
            due("not beside it", x.may(3), 0);
            x.alter(1, 2);
            due("the mark that it has", x.may(1), 4);
            due("0 1 and 1 2 lie without it", x.may(3), 63);
            due("0, or the other 1, that has a 0 beside it", x.may(2), 1 | 2);
            x.strike(0);
            due("0 0 1 is told no more", x.may(2), 63);
            due("marks 0 to 5", laid("d2,2;w000;").may(0), 63);
            Sentences.same("it is not altered", Sentences.marks(x), "1200");
            due("no act", x.count(3), 2);
        });
        sentence(18, "`int may(int x)`: MAY, as bits. BAD.", () -> {
            DrawnByLost x = laid("d2,3;w000;");
            due("the last", x.may(5), 63);
            for (int n : new int[] {6, -1, MIN, MAX}) due("may " + n, x.may(n), BAD);
        });
    }

    private static void moved() {
        sentence(19, "MOVED: how many twos of PLACES of unlike MARKS there are, by which, were they SWAPPED, nobody would have LIED;", () -> {
            DrawnByLost x = laid("d2,3;m0,1;m5,2;w012;");
            // 1 at 0, 2 at 5: 2 to 1 or 3, or 1 to 2 or 4
            due("four twos", x.moved(0), 4);
            due("alike ones are none", laid("d2,2;w000;").moved(0), 0);
            due("though nobody lied", laid("d2,2;m3,1;w001;").moved(0), 3);
            // marks 1 2 0, below them 0 0 0: 0 with 1, 2, 4, and 1 with 3; behind the others 1 stands beside no 2
            due("though nobody lied", laid("d2,3;m0,1;m1,2;w012;").moved(0), 4);
            due("no walk: all twos of unlike marks", stricken("d2,2;m3,1;w001;").moved(0), 3);
            due("one lies in any case", laid("m0,1;m15,2;w012;w033;").moved(0), 0);
            due("all 120 twos but those alike", stricken("m0,1;w000;").moved(0), 15);
            Sentences.same("they are not swapped", Sentences.marks(x), "100002");
            due("no act", x.count(3), 0);
        });
        sentence(19, "the first, as 16 times the lower and the higher; none.", () -> {
            due("0 and 2", laid("d2,3;m0,1;m5,2;w012;").moved(1), 2);
            due("0 and 3", laid("d2,2;m3,1;w001;").moved(1), 3);
            due("1 and 3 by 2,4", laid("d2,4;m3,1;m5,2;w012;").moved(1), 16 + 3);
            // 4 2 1 along the last row, 3 above the 1, 5 above the 3
            DrawnByLost x = laid("m15,1;m14,2;m13,4;m11,3;m7,5;w04123;w035;");
            due("14 and 15", x.moved(1), 16 * 14 + 15);
            due("they alone", x.moved(0), 1);
            due("none: one lies in any case", laid("m0,1;m15,2;w012;w033;").moved(1), NONE);
            due("none: all are alike", laid("w000;").moved(1), NONE);
        });
        sentence(19, "`int moved(int what)`: MOVED: how many (what = 0), the first (1; NONE). BAD.", () -> {
            DrawnByLost x = new DrawnByLost();
            due("how many", x.moved(0), 1);
            due("the first", x.moved(1), 16 * 6 + 10);
            for (int n : new int[] {2, -1, MIN, MAX}) due("moved " + n, x.moved(n), BAD);
        });
    }

    private static DrawnByLost stricken(String text) {
        DrawnByLost x = laid(text);
        x.strike(0);
        return x;
    }

    private static void knownAs(DrawnByLost x, int place, int... word) {
        due("known " + place + ": how many", x.known(place, -1), word.length == 0 ? NONE : word.length);
        for (int k = 0; k < 4; k++) due("known " + place + " " + k, x.known(place, k), k < word.length ? word[k] : NONE);
    }

    private static void known() {
        sentence(20, "KNOWN: the fewest MARKS (1 to 4) that a PLAIN one would have to tell so that he can only have ENDED in a PLACE", () -> {
            // marks 1 0 2 1, below them 0 0 0 0
            DrawnByLost x = laid("d2,4;m0,1;m2,2;m3,1;w355;");
            knownAs(x, 2, 2);
            knownAs(x, 3, 2, 1);
            knownAs(x, 0, 2, 0, 1);
            knownAs(x, 7, 2, 1, 0);
            knownAs(x, 6, 2, 1, 0, 0);
            knownAs(x, 5); // five marks would do, 2 0 1 0 0: they are too many
            knownAs(x, 1);
            knownAs(x, 4);
        });
        sentence(20, "(one MARK: only that PLACE has it)", () -> {
            DrawnByLost x = laid("d2,2;m0,1;m1,1;m2,2;w000;");
            knownAs(x, 2, 2);
            knownAs(x, 3, 0);
            knownAs(x, 0, 2, 1);
            knownAs(x, 1, 0, 1);
            DrawnByLost y = laid("w000;");
            for (int p = 0; p < 16; p++) knownAs(y, p);
            DrawnByLost z = laid("m15,5;w000;");
            knownAs(z, 15, 5);
        });
        sentence(20, "of several the first (by MARKS, the first ahead): how many; the k-th MARK; none.", () -> {
            // marks 2 2 2 0, below them 0 0 1 0: 1 0 2 and 1 2 2 end in place 1, 1 0 2 0 and 1 2 2 0 in place 5
            DrawnByLost x = laid("d2,4;m0,2;m1,2;m2,2;m6,1;w000;");
            knownAs(x, 6, 1);
            knownAs(x, 2, 1, 2);
            knownAs(x, 3, 1, 2, 0);
            knownAs(x, 1, 1, 0, 2);
            knownAs(x, 5, 1, 0, 2, 0);
            knownAs(x, 7, 1, 2, 0, 0);
            knownAs(x, 0);
            knownAs(x, 4);
        });
        sentence(20, "`int known(int x, int k)`: KNOWN: how many (k = -1), the k-th MARK (0 to 3; NONE: there are not so many). NONE; BAD.", () -> {
            DrawnByLost x = laid("d2,4;m0,1;m2,2;m3,1;w355;");
            due("k = -2", x.known(2, -2), BAD);
            due("k = 3", x.known(2, 3), NONE);
            due("k = 4", x.known(2, 4), BAD);
            due("k = 3 of four", x.known(6, 3), 0);
            due("k = 4 of four", x.known(6, 4), BAD);
            for (int k : new int[] {MIN, MAX}) due("k = " + k, x.known(2, k), BAD);
            for (int n : new int[] {8, -1, MIN, MAX}) for (int k = -1; k < 4; k++) due("known " + n + " " + k, x.known(n, k), BAD);
        });
    }

    private static void roundAndMeet() {
        sentence(21, "ROUND of a WALK: whether it may END in the PLACE where it BEGINS.", () -> {
            DrawnByLost x = laid("d2,2;m0,1;m3,1;w0101;w011;w2111;w311;w0100;");
            int[] due = {1, 0, 1, 0, 0};
            for (int w = 0; w < 5; w++) due("round " + w, x.round(w), due[w]);
            due("ends of the liar are its begins, yet not of one row", x.ends(3), 1 | 1 << 3);
            due("two marks: never", laid("w300;w200;w000;w100;").round(0), 0);
            due("at the last place alone", laid("m15,1;w1101;").round(0), 1);
            due("at place 0 alone", laid("m0,1;w2101;").round(0), 1);
            due("an odd number of steps: not beside", laid("w00000;").round(0), 0);
            due("an odd number of steps: hungry", laid("w20000;").round(0), 1);
            due("a liar, three steps", laid("d2,2;w30000;").round(0), 1);
            due("none", laid("w055;").round(0), 0);
        });
        sentence(21, "`int round(int w)`: ROUND: 1, 0. BAD.", () -> {
            DrawnByLost x = laid("m0,1;w0101;w001;");
            due("1", x.round(0), 1);
            due("0", x.round(1), 0);
            for (int n : new int[] {2, -1, MIN, MAX}) due("round " + n, x.round(n), BAD);
        });
        sentence(22, "MEET of two WALKS: PLACES (bits) in which both may END.", () -> {
            DrawnByLost x = laid("d2,4;m1,1;m7,2;w010;w310;w0101;w022;w120;");
            due("beside 1", x.meet(0, 1), 1 | 1 << 2 | 1 << 5);
            due("the other order", x.meet(1, 0), 1 | 1 << 2 | 1 << 5);
            due("0 and 1", x.meet(0, 2), 0);
            due("one lied", x.meet(0, 3), 0);
            due("both lied or end apart", x.meet(3, 4), 0);
            due("the last place", laid("m15,1;w001;w301;").meet(0, 1), 1 << 15);
        });
        sentence(22, "`int meet(int v, int w)`: MEET, as bits. BAD (alike, too).", () -> {
            DrawnByLost x = laid("w000;w000;w000;");
            due("the first and the last", x.meet(0, 2), 0xffff);
            for (int w = 0; w < 3; w++) due("alike " + w, x.meet(w, w), BAD);
            for (int n : new int[] {3, -1, MIN, MAX}) {
                due("meet " + n, x.meet(n, 0), BAD);
                due("meet with " + n, x.meet(0, n), BAD);
                due("alike " + n, x.meet(n, n), BAD);
            }
        });
    }

    public static void main(String[] args) {
        kinds();
        ways();
        first();
        ends();
        liedAndNobody();
        may();
        moved();
        known();
        roundAndMeet();
        Sentences.end();
    }
}
