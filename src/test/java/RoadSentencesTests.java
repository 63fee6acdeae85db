import java.math.BigInteger;

/** Sentences of the document on roads: promises 23 to 27. */
public final class RoadSentencesTests {
    private static final int BAD = Sentences.BAD, NO = Sentences.NO, NONE = Sentences.NONE;
    private static final int MIN = Sentences.MIN, MAX = Sentences.MAX;

    private static void sentence(int promise, String words, Runnable test) {
        Sentences.sentence(promise, words, test);
    }

    private static void due(String call, int got, int want) {
        Sentences.due(call, got, want);
    }

    private static DrawnByLost laid(String text) {
        return Sentences.laid(text);
    }

    /** How many rows and columns together these places are from each other, in rows of c. */
    private static int apart(int a, int b, int c) {
        return Math.abs(a / c - b / c) + Math.abs(a % c - b % c);
    }

    private static void road() {
        sentence(23, "ROAD from one PLACE to another one: the least HUNGER, each PLACE BESIDE the one ahead", () -> {
            for (int r = 2; r <= 4; r++) {
                for (int c = 2; c <= 4; c++) {
                    DrawnByLost x = laid("d" + r + "," + c + ";h0,3;w000;");
                    for (int a = 0; a < r * c; a++) {
                        for (int b = 0; b < r * c; b++) {
                            due("of " + r + "," + c + " from " + a + " to " + b, x.road(a, b, 0), 3 * apart(a, b, c));
                        }
                    }
                }
            }
            // 0 5 0, 0 5 1, 0 0 0: from 0 to 2 over the 5 it is 6 and 1, round about it 1 1 1 1 and 2 and 1
            DrawnByLost x = laid("d3,3;m1,5;m4,5;m5,1;w000;");
            due("round about", x.road(0, 2, 0), 7);
            x.alter(1, 3);
            due("straight over 3", x.road(0, 2, 0), 5);
            due("the greatest hunger there is", laid("d4,4;h0,9;w000;").road(0, 15, 0), 54);
            // the long way: 0 to 12 along three rows and back
            DrawnByLost y = laid("h5,9;m4,5;m5,5;m6,5;m9,5;m10,5;m11,5;m8,0;m13,5;w000;");
            due("over one dear one", y.road(0, 8, 0), 10);
            DrawnByLost z = laid("h1,9;h2,9;m4,1;m5,1;m6,2;m9,2;m10,1;m11,2;w000;");
            due("over one dear one", z.road(3, 15, 0), 11);
        });
        sentence(23, "that one counted from which one comes not;", () -> {
            DrawnByLost x = laid("d2,2;m0,5;m1,3;w000;");
            due("from 5 to 3", x.road(0, 1, 0), 4);
            due("from 3 to 5", x.road(1, 0, 0), 6);
            due("from 5 by 0 to 0", x.road(0, 3, 0), 2);
        });
        sentence(23, "the next PLACE on it, of several the lowest;", () -> {
            DrawnByLost x = laid("w000;");
            for (int a = 0; a < 16; a++) {
                for (int b = 0; b < 16; b++) {
                    int next = a;
                    if (b > a + 3 || b > a && b / 4 > a / 4) next = b % 4 < a % 4 ? a - 1 : b % 4 > a % 4 ? a + 1 : a + 4;
                    else if (b > a) next = a + 1;
                    if (b < a) next = b / 4 < a / 4 ? a - 4 : a - 1;
                    due("next from " + a + " to " + b, x.road(a, b, 1), next);
                }
            }
            DrawnByLost y = laid("d2,3;m1,1;w000;");
            due("not the lowest if that is dearer", y.road(0, 5, 1), 3);
            due("nor if it comes back", y.road(0, 2, 1), 1);
            due("place 0", y.road(3, 1, 1), 0);
        });
        sentence(23, "(from one to itself: 0; itself)", () -> {
            for (String text : new String[] {"w000;", "d2,2;h0,9;w000;", "d2,4;m0,5;m7,5;w000;"}) {
                DrawnByLost x = laid(text);
                for (int p = 0; p < x.count(0); p++) {
                    due("hunger from " + p + " to itself", x.road(p, p, 0), 0);
                    due("next from " + p + " to itself", x.road(p, p, 1), p);
                }
            }
        });
        sentence(23, "`int road(int x, int y, int what)`: ROAD: HUNGER (what = 0), the next PLACE (1). BAD.", () -> {
            DrawnByLost x = laid("d2,3;w000;");
            due("from the first to the last", x.road(0, 5, 0), 3);
            for (int n : new int[] {6, -1, MIN, MAX}) {
                for (int what = 0; what < 2; what++) {
                    due("from " + n, x.road(n, 0, what), BAD);
                    due("to " + n, x.road(0, n, what), BAD);
                    due("to itself " + n, x.road(n, n, what), BAD);
                }
            }
            for (int what : new int[] {2, -1, MIN, MAX}) due("what " + what, x.road(0, 1, what) + x.road(2, 2, what), 2 * BAD);
        });
    }

    private static void fear() {
        sentence(24, "FEAR: MARKS (bits) that are nowhere.", () -> {
            due("all but 0", laid("w055;").fear(), 62);
            DrawnByLost x = laid("d2,3;m1,1;m2,2;m3,3;m4,4;m5,5;w000;");
            due("none", x.fear(), 0);
            x.alter(0, 1);
            due("0", x.fear(), 1);
            x.alter(5, 1);
            due("0 and 5", x.fear(), 33);
            x.undo();
            due("0 again", x.fear(), 1);
            x.swap(0, 2);
            due("swapped ones are somewhere", x.fear(), 1);
            DrawnByLost y = laid("d2,2;m3,5;w000;");
            due("the last place's is somewhere", y.fear(), 1 << 1 | 1 << 2 | 1 << 3 | 1 << 4);
            // a mark of a greater delta ahead of it
            DrawnByLost z = laid("m15,4;w000;");
            z.wipe();
            Sentences.put(z, "d2,2;w000;");
            z.lay();
            due("what was laid ahead is nowhere", z.fear(), 62);
        });
        sentence(24, "`int fear()`: FEAR, as bits.", () -> {
            String[] items = {"", "m1,1;", "m2,2;", "m3,3;", "m4,4;", "m5,5;"};
            for (int mark = 1; mark < 6; mark++) {
                StringBuilder text = new StringBuilder("d2,4;w000;");
                for (int m = 1; m < 6; m++) text.append(m == mark ? "" : items[m]);
                due("mark " + mark + " alone", laid(text.toString()).fear(), 1 << mark);
            }
        });
    }

    private static void lost() {
        sentence(25, "LOST by chance: one begins in any PLACE alike likely, goes to any one BESIDE, each alike likely, n (0 to 4) times:", () -> {
            for (int r = 2; r <= 4; r++) {
                for (int c = 2; c <= 4; c++) {
                    for (int p = 0; p < r * c; p++) {
                        DrawnByLost x = laid("d" + r + "," + c + ";m" + p + ",1;w010;w001;w022;");
                        due("begins at " + p, x.lost(0, 0), 100000 / (r * c));
                        due("goes on to a 0", x.lost(0, 1), 100000 / (r * c));
                        due("comes from beside", x.lost(1, 1), fromBeside(r, c, p));
                        due("never", x.lost(2, 0) + x.lost(2, 1), 0);
                    }
                }
            }
            due("always, 0 times", laid("w000000;").lost(0, 0), 100000);
            due("always, 4 times", laid("w000000;").lost(0, 4), 100000);
        });
        sentence(25, "how likely the MARKS that he goes past (the first one, too) are those a PLAIN WALK tells in order", () -> {
            // 1 0 below 0 0: from the 1 always to a 0, from beside it by a half, from the far one never
            DrawnByLost x = laid("d2,2;m0,1;w01010;w00101;w00010;");
            int[][] due = {{25000, 25000, 12500, 12500}, {75000, 25000, 25000, 12500}, {75000, 50000, 12500, 12500}};
            for (int w = 0; w < 3; w++) for (int n = 0; n < 4; n++) due("lost " + w + " " + n, x.lost(w, n), due[w][n]);
        });
        sentence(25, "(n and 1 of them; NO: it is not PLAIN, it has fewer)", () -> {
            DrawnByLost x = laid("w000;w0000;w00000;w000000;w100;");
            for (int w = 0; w < 4; w++) {
                for (int n = 0; n <= 4; n++) due("lost " + w + " " + n, x.lost(w, n), n < w + 2 ? 100000 : NO);
            }
            DrawnByLost y = laid("w100000;w200000;w300000;w000;");
            for (int w = 0; w < 3; w++) {
                for (int n = 0; n <= 4; n++) due("of kind " + (w + 1) + ", " + n, y.lost(w, n), NO);
            }
            due("the first n and 1 alone count", laid("w0055;").lost(0, 0), 100000);
            due("the first n and 1 alone count", laid("w0005;").lost(0, 1), 100000);
            due("all of them do", laid("w0005;").lost(0, 2), 0);
        });
        sentence(25, "as many of 100000 (cut)", () -> {
            due("a sixth", laid("d2,3;m0,1;w010;").lost(0, 0), 16666);
            due("two sixths", laid("d2,3;m0,1;m5,1;w010;").lost(0, 0), 33333);
            due("two thirds", laid("d2,3;m0,1;m5,1;w001;").lost(0, 0), 66666);
            due("a ninth", laid("d3,3;m0,1;w010;").lost(0, 0), 11111);
            due("eight ninths", laid("d3,3;m0,1;w001;").lost(0, 0), 88888);
            due("a twelfth", laid("d3,4;m0,1;w010;").lost(0, 0), 8333);
            due("a sixteenth", laid("m0,1;w010;").lost(0, 0), 6250);
            // along 1 2 3 4 5 round the middle of four rows: a sixteenth by a quarter four times, 24.4 of 100000
            due("cut of 24.4", laid("m5,1;m6,2;m10,3;m9,4;m8,5;w012345;").lost(0, 4), 24);
            due("a sixteenth by a quarter twice: cut of 390.6", laid("m5,1;m6,2;m10,3;m9,4;m8,5;w0123;").lost(0, 2), 390);
        });
        sentence(25, "`int lost(int w, int n)`: LOST by chance. BAD; NO.", () -> {
            DrawnByLost x = laid("w000000;w100000;w000;");
            for (int w = 0; w < 3; w++) for (int n : new int[] {-1, 5, MIN, MAX}) due("lost " + w + " " + n, x.lost(w, n), BAD);
            for (int n : new int[] {3, -1, MIN, MAX}) for (int k = 0; k < 5; k++) due("lost " + n + " " + k, x.lost(n, k), BAD);
        });
    }

    /** From each place beside this one, by one of as many as are beside that one; as many of 100000. */
    private static int fromBeside(int r, int c, int p) {
        int twelfths = 0;
        for (int q = 0; q < r * c; q++) {
            if (apart(p, q, c) != 1) continue;
            int up = q / c > 0 ? 1 : 0, down = q / c < r - 1 ? 1 : 0, left = q % c > 0 ? 1 : 0, right = q % c < c - 1 ? 1 : 0;
            twelfths += 12 / (up + down + left + right);
        }
        return 100000 * twelfths / (12 * r * c);
    }

    private static void huts() {
        sentence(26, "HUTS: how many sets of PLACES of MARK 2 there are, each joined by PLACES of MARK 2 BESIDE one another; how many PLACES the greatest has.", () -> {
            hutsDue("none of mark 2", "m0,1;m1,3;w000;", 0, 0);
            hutsDue("one, the first place", "m0,2;w000;", 1, 1);
            hutsDue("one, the last place", "m15,2;w000;", 1, 1);
            hutsDue("one row's end and the next one's begin", "m3,2;m4,2;w000;", 2, 1);
            hutsDue("corner by corner", "m0,2;m5,2;m10,2;m15,2;w000;", 4, 1);
            hutsDue("beside in a row", "m0,2;m1,2;w000;", 1, 2);
            hutsDue("beside in a column", "m11,2;m15,2;w000;", 1, 2);
            hutsDue("of two the greater is behind", "m0,2;m14,2;m15,2;w000;", 2, 2);
            hutsDue("of two the greater is ahead", "m0,2;m1,2;m15,2;w000;", 2, 2);
            hutsDue("joined by a third", "m0,2;m2,2;m1,2;w000;", 1, 3);
            hutsDue("joined behind them alone", "m0,2;m2,2;m4,2;m5,2;m6,2;w000;", 1, 5);
            hutsDue("a winding one", "m0,2;m1,2;m2,2;m3,2;m7,2;m11,2;m15,2;m14,2;m13,2;m12,2;m8,2;m9,2;w000;", 1, 12);
            hutsDue("as many as there can be", "m0,2;m2,2;m5,2;m7,2;m8,2;m10,2;m13,2;m15,2;w000;", 8, 1);
            DrawnByLost all = laid("d2,2;m0,2;m1,2;m2,2;m3,2;w022;");
            due("all: sets", all.huts(0), 1);
            due("all: places", all.huts(1), 4);
            DrawnByLost most = laid("w000;");
            for (int p = 0; p < 16; p++) most.alter(p, 2);
            due("all of 16: sets", most.huts(0), 1);
            due("all of 16: places", most.huts(1), 16);
        });
        sentence(26, "`int huts(int what)`: HUTS: how many sets (what = 0), how many PLACES (1). BAD.", () -> {
            for (int n : new int[] {2, -1, MIN, MAX}) due("huts " + n, new DrawnByLost().huts(n), BAD);
        });
    }

    private static void hutsDue(String name, String text, int sets, int greatest) {
        DrawnByLost x = laid(text);
        due(name + ": sets", x.huts(0), sets);
        due(name + ": places", x.huts(1), greatest);
    }

    /** By the words of the document: which two places a week swaps. */
    private static int[] draw(int z, int week, int places) {
        BigInteger x = BigInteger.valueOf(7919).multiply(BigInteger.valueOf(z))
            .add(BigInteger.valueOf(6151).multiply(BigInteger.valueOf(week))).add(BigInteger.ONE);
        int draw = x.multiply(x).mod(BigInteger.valueOf(65521)).divide(BigInteger.valueOf(4)).intValue();
        return new int[] {draw % places, (draw / 16) % places};
    }

    /** Follows a 1 and a 2, beside each other at first or not, through 40 weeks, all others being 0. */
    private static void follow(int r, int c, int z) {
        int places = r * c;
        for (int start = 0; start < places; start += 3) {
            int at = start, other = (start + 1) % places, behind = NONE;
            DrawnByLost x = laid("d" + r + "," + c + ";m" + at + ",1;m" + other + ",2;w012;w000;");
            for (int week = 0; week < 40; week++) {
                int[] two = draw(z, week, places);
                at = moved(at, two);
                other = moved(other, two);
                boolean lies = apart(at, other, c) == 1;
                if (!lies && behind == NONE) behind = week + 1;
                int bits = (lies ? 0 : 1) | (places == 4 && !lies ? 2 : 0);
                due("flood " + z + " of " + (week + 1) + " weeks in " + r + "," + c, x.flood(z, week + 1, 0), bits);
                due("behind how many of " + (week + 1), x.flood(z, week + 1, 1), behind);
            }
        }
    }

    /** A 1 on one of the two places that the first week swaps is on the other one then, all others stay. */
    private static void oneWeek(int r, int c, int z) {
        int[] two = draw(z, 0, r * c);
        for (int other = 0; other < r * c; other++) {
            if (other == two[0] || other == two[1]) continue;
            for (int i = 0; i < 2; i++) {
                DrawnByLost x = laid("d" + r + "," + c + ";m" + two[i] + ",1;m" + other + ",2;w012;");
                boolean lies = apart(two[1 - i], other, c) == 1;
                due("flood " + z + " in " + r + "," + c + " from " + two[i] + " beside " + other, x.flood(z, 1, 0), lies ? 0 : 1);
            }
        }
    }

    private static int moved(int at, int[] two) {
        return at == two[0] ? two[1] : at == two[1] ? two[0] : at;
    }

    private static void flood() {
        sentence(27, "A FLOOD by z (0 to 9999) of n (1 to 40) weeks from now on:", () -> {
            DrawnByLost x = laid("d2,3;m0,1;m1,2;w012;");
            due("the lowest z", x.flood(0, 1, 1), floodOfOne(0));
            due("the highest z", x.flood(9999, 1, 1), floodOfOne(9999));
            int now = x.flood(77, 3, 0);
            x.flood(78, 40, 0);
            due("the same again: it begins from now on", x.flood(77, 3, 0), now);
            Sentences.same("nothing is swapped", Sentences.marks(x), "120000");
        });
        sentence(27, "in each PLACES DRAW modulo as many and (DRAW by 16, cut) modulo as many are SWAPPED,", () -> {
            for (int r = 2; r <= 4; r++) {
                for (int c = 2; c <= 4; c++) for (int z = 0; z < 10000; z += 1111) oneWeek(r, c, z);
            }
        });
        sentence(27, "DRAW being ((x times x) modulo 65521) by 4, cut, x 7919 z, 6151 (the week, 0 first) and 1 together:", () -> {
            // z 0, week 0: x 1, DRAW 0: 0 with 0. Week 1: x 6152, its square modulo 65521 is 41487, DRAW 10371: of 12 places 3 and (648) 0
            DrawnByLost x = laid("d3,4;m3,1;m2,2;w012;");
            due("z 0, one week: nothing is swapped", x.flood(0, 1, 0), 0);
            due("z 0, two weeks: the 1 is at 0", x.flood(0, 2, 0), 1);
            due("z 0: behind two weeks", x.flood(0, 40, 1), 2);
            // z 1, week 0: x 7920, its square modulo 65521 is 22803, DRAW 5700: of 12 places 0 and (356) 8
            DrawnByLost y = laid("d3,4;m0,1;m9,2;w012;");
            due("the 1 comes beside the 2", y.flood(1, 1, 0), 0);
            due("though it lies apart now", y.lied(), 1);
            for (int z : new int[] {0, 1, 2, 8, 999, 5000, 9998, 9999}) {
                for (int r = 2; r <= 4; r++) for (int c = 2; c <= 4; c++) follow(r, c, z);
            }
        });
        sentence(27, "WALKS (bits) that can LIE nowhere then; behind how many weeks (1 first) anybody has LIED first; none.", () -> {
            DrawnByLost x = laid("d2,2;m0,1;m1,1;w000;w033;w322;w001;w311;");
            due("who lies in any case", x.flood(9999, 40, 0) & (2 | 4), 2 | 4);
            due("who never does", x.flood(9999, 40, 0) & (8 | 16), 0);
            due("behind the first week", x.flood(9999, 40, 1), 1);
            due("nobody ever: walks", laid("w000;").flood(0, 40, 0), 0);
            due("nobody ever", laid("w000;").flood(0, 40, 1), NONE);
            DrawnByLost none = laid("w055;");
            due("one lies in any case", none.flood(3, 40, 1), 1);
            none.strike(0);
            due("no walk", none.flood(3, 40, 1), NONE);
            due("no walk", none.flood(3, 40, 0), 0);
            DrawnByLost five = laid("w055;w155;w255;w355;w054;");
            due("all five", five.flood(3, 1, 0), 31);
            // as above: the 1 goes from 3 to 0 in the second week of z 0
            DrawnByLost y = laid("d3,4;m3,1;m2,2;w012;");
            due("not yet", y.flood(0, 1, 1), NONE);
            due("behind two", y.flood(0, 2, 1), 2);
            due("behind two of three", y.flood(0, 3, 1), 2);
        });
        sentence(27, "`int flood(int z, int n, int what)`: A FLOOD: WALKS (what = 0), behind how many weeks (1; NONE). BAD.", () -> {
            DrawnByLost x = laid("d2,3;m0,1;m1,2;w000;w005;w012;");
            due("walks", x.flood(9999, 40, 0) & 3, 2);
            due("weeks", x.flood(9999, 40, 1), 1);
            x.strike(1);
            x.strike(1);
            due("no walks", x.flood(9999, 40, 0), 0);
            due("no week", x.flood(9999, 40, 1), NONE);
            for (int what = 0; what < 2; what++) {
                for (int z : new int[] {-1, 10000, MIN, MAX}) due("z " + z, x.flood(z, 1, what), BAD);
                for (int n : new int[] {0, 41, -1, MIN, MAX}) due("n " + n, x.flood(0, n, what), BAD);
            }
            for (int what : new int[] {2, -1, MIN, MAX}) due("what " + what, x.flood(0, 1, what), BAD);
        });
    }

    /** Behind how many weeks of one the 1 at 0 stands not beside the 2 at 1, in two rows of three. */
    private static int floodOfOne(int z) {
        int[] two = draw(z, 0, 6);
        int one = moved(0, two), other = moved(1, two);
        return apart(one, other, 3) == 1 ? NONE : 1;
    }

    public static void main(String[] args) {
        road();
        fear();
        lost();
        huts();
        flood();
        Sentences.end();
    }
}
