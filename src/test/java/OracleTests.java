import java.math.BigInteger;
import java.util.ArrayList;
import java.util.Arrays;
import java.util.List;
import java.util.Random;
import java.util.function.Predicate;

/**
 * Runs of calls on the class and on a slow model of the document, written another way:
 * rows of places are tried one by one, chances are fractions, roads are tried by all twos.
 */
public final class OracleTests {
    private static final int BAD = -1, NO = -2, FULL = -3, NONE = -4;
    private static final String FIRST =
        "d3,4;m1,1;m2,2;m4,3;m5,1;m7,4;m9,2;m10,5;h5,2;w0012;w1213;w2354;w301;w0315;";
    private static int wrong = 0;

    /** A walk: its kind, and its marks as told. */
    private record Walk(int kind, List<Integer> marks) { }

    /** What acts change. */
    private record State(List<Integer> marks, List<Walk> walks) {
        State copy() {
            return new State(new ArrayList<>(marks), new ArrayList<>(walks));
        }
    }

    private static final class Model {
        String text = "";
        int rows, columns;
        int[] hunger;
        State now;
        final List<State> done = new ArrayList<>();
        final List<State> kept = new ArrayList<>();

        Model() {
            text = FIRST;
            lay();
            text = "";
        }

        int places() {
            return rows * columns;
        }

        int write(int letter) {
            if (letter < 32 || letter > 126) return BAD;
            if (text.length() == 200) return FULL;
            text += (char) letter;
            return text.length();
        }

        int wipe() {
            int was = text.length();
            text = "";
            return was;
        }

        int fault() {
            return read(new Model[] {null});
        }

        /** The fault; without one the first of these is what was read. */
        private int read(Model[] to) {
            int r = 4, c = 4, walks = 0;
            boolean onlyD = true;
            int[] food = {1, 2, 3, 4, 5, 6};
            int[] marks = new int[16];
            List<Walk> told = new ArrayList<>();
            int i = 0;
            while (i < text.length()) {
                int end = text.indexOf(';', i);
                if (end < 0) return i;
                String item = text.substring(i, end);
                if (item.matches("[dmh]\\d\\d?,\\d\\d?")) {
                    String[] n = item.substring(1).split(",");
                    int a = Integer.parseInt(n[0]), b = Integer.parseInt(n[1]);
                    if (item.charAt(0) == 'd') {
                        if (!onlyD || a < 2 || a > 4 || b < 2 || b > 4) return i;
                        r = a;
                        c = b;
                    } else if (item.charAt(0) == 'm') {
                        if (a >= r * c || b > 5) return i;
                        marks[a] = b;
                        onlyD = false;
                    } else {
                        if (a > 5 || b < 1 || b > 9) return i;
                        food[a] = b;
                        onlyD = false;
                    }
                } else if (item.matches("w[0-3][0-5]{2,5}")) {
                    if (walks == 5) return i;
                    walks++;
                    List<Integer> list = new ArrayList<>();
                    for (char ch : item.substring(2).toCharArray()) list.add(ch - '0');
                    told.add(new Walk(item.charAt(1) - '0', list));
                    onlyD = false;
                } else {
                    return i;
                }
                i = end + 1;
            }
            if (to[0] != null && walks > 0) {
                Model m = to[0];
                m.rows = r;
                m.columns = c;
                m.hunger = food;
                List<Integer> list = new ArrayList<>();
                for (int x = 0; x < r * c; x++) list.add(marks[x]);
                m.now = new State(list, told);
                to[0] = null;
            }
            return NONE;
        }

        int lay() {
            Model[] to = {this};
            if (read(to) != NONE || to[0] != null) return NO;
            done.clear();
            kept.clear();
            return places();
        }

        boolean isPlace(int x) {
            return 0 <= x && x < places();
        }

        boolean isWalk(int w) {
            return 0 <= w && w < now.walks.size();
        }

        int mark(int x) {
            return now.marks.get(x);
        }

        int between(int x, int y) {
            return Math.abs(x / columns - y / columns) + Math.abs(x % columns - y % columns);
        }

        int place(int x, int what) {
            if (!isPlace(x) || what < 0 || what > 1) return BAD;
            if (what == 0) return mark(x);
            int seen = 0;
            int[][] ways = {{0, 1}, {0, -1}, {1, 0}, {-1, 0}};
            for (int[] way : ways) {
                int r = x / columns + way[0], c = x % columns + way[1];
                while (r >= 0 && r < rows && c >= 0 && c < columns) {
                    seen++;
                    if (mark(r * columns + c) == 1) break;
                    r += way[0];
                    c += way[1];
                }
            }
            return seen;
        }

        int walk(int w, int k) {
            if (!isWalk(w) || k < -2) return BAD;
            Walk walk = now.walks.get(w);
            if (k == -2) return walk.kind;
            if (k == -1) return walk.marks.size();
            return k < walk.marks.size() ? walk.marks.get(k) : NONE;
        }

        void remember() {
            done.add(now.copy());
            if (done.size() > 8) done.remove(0);
        }

        int swap(int x, int y) {
            if (!isPlace(x) || !isPlace(y) || x == y) return BAD;
            remember();
            trade(now, x, y);
            return mark(x);
        }

        static void trade(State s, int x, int y) {
            int m = s.marks.get(x);
            s.marks.set(x, s.marks.get(y));
            s.marks.set(y, m);
        }

        int alter(int x, int m) {
            if (!isPlace(x) || m < 0 || m > 5) return BAD;
            remember();
            return now.marks.set(x, m);
        }

        int tell(int kind, int marks) {
            if (kind < 0 || kind > 3 || !("" + marks).matches("[1-6]{2,5}")) return BAD;
            if (now.walks.size() == 5) return FULL;
            remember();
            List<Integer> list = new ArrayList<>();
            for (char ch : ("" + marks).toCharArray()) list.add(ch - '1');
            now.walks.add(new Walk(kind, list));
            return now.walks.size();
        }

        int strike(int w) {
            if (!isWalk(w)) return BAD;
            remember();
            now.walks.remove(w);
            return now.walks.size();
        }

        int undo() {
            if (done.isEmpty()) return NO;
            now = done.remove(done.size() - 1);
            return done.size();
        }

        /** Tries the rows of a walk in order, until one is taken. */
        boolean rows(Walk walk, List<Integer> row, Predicate<List<Integer>> taken) {
            int n = walk.marks.size(), i = row.size();
            if (i == n) return taken.test(row);
            for (int x = 0; x < places(); x++) {
                if (mark(x) != walk.marks.get(walk.kind == 1 ? n - 1 - i : i)) continue;
                if (i > 0) {
                    int far = between(row.get(i - 1), x);
                    if (walk.kind < 2 && far != 1) continue;
                    if (walk.kind == 2 && (far < 1 || far > 2)) continue;
                    if (walk.kind == 3 && far == 0) continue;
                }
                row.add(x);
                boolean end = rows(walk, row, taken);
                row.remove(row.size() - 1);
                if (end) return true;
            }
            return false;
        }

        int ways(int w) {
            if (!isWalk(w)) return BAD;
            int[] many = {0};
            rows(now.walks.get(w), new ArrayList<>(), row -> { many[0]++; return false; });
            return many[0];
        }

        int first(int w, int k) {
            if (!isWalk(w) || k < 0) return BAD;
            int[] found = {NONE};
            rows(now.walks.get(w), new ArrayList<>(), row -> {
                if (k < row.size()) found[0] = row.get(k);
                return true;
            });
            return found[0];
        }

        int ends(Walk walk) {
            int[] bits = {0};
            rows(walk, new ArrayList<>(), row -> { bits[0] |= 1 << row.get(row.size() - 1); return false; });
            return bits[0];
        }

        int ends(int w) {
            return isWalk(w) ? ends(now.walks.get(w)) : BAD;
        }

        int lied() {
            int bits = 0;
            for (int w = 0; w < now.walks.size(); w++) {
                if (!rows(now.walks.get(w), new ArrayList<>(), row -> true)) bits |= 1 << w;
            }
            return bits;
        }

        int nobody() {
            int[] bits = {(1 << places()) - 1};
            for (Walk walk : now.walks) {
                rows(walk, new ArrayList<>(), row -> { for (int x : row) bits[0] &= ~(1 << x); return false; });
            }
            return bits[0];
        }

        int may(int x) {
            if (!isPlace(x)) return BAD;
            int was = mark(x), bits = 0;
            for (int m = 0; m < 6; m++) {
                now.marks.set(x, m);
                if (lied() == 0) bits |= 1 << m;
            }
            now.marks.set(x, was);
            return bits;
        }

        int moved(int what) {
            if (what < 0 || what > 1) return BAD;
            List<Integer> twos = new ArrayList<>();
            for (int x = 0; x < places(); x++) {
                for (int y = x + 1; y < places(); y++) {
                    if (mark(x) == mark(y)) continue;
                    trade(now, x, y);
                    if (lied() == 0) twos.add(16 * x + y);
                    trade(now, x, y);
                }
            }
            return what == 0 ? twos.size() : twos.isEmpty() ? NONE : twos.get(0);
        }

        int known(int x, int k) {
            if (!isPlace(x) || k < -1 || k > 3) return BAD;
            for (int n = 1, all = 6; n <= 4; n++, all *= 6) {
                for (int code = 0; code < all; code++) {
                    List<Integer> word = new ArrayList<>();
                    for (int i = 0, rest = code; i < n; i++, rest /= 6) word.add(0, rest % 6);
                    if (ends(new Walk(0, word)) == 1 << x) return k == -1 ? n : k < n ? word.get(k) : NONE;
                }
            }
            return NONE;
        }

        int round(int w) {
            if (!isWalk(w)) return BAD;
            return rows(now.walks.get(w), new ArrayList<>(),
                row -> row.get(0).equals(row.get(row.size() - 1))) ? 1 : 0;
        }

        int meet(int v, int w) {
            return !isWalk(v) || !isWalk(w) || v == w ? BAD : ends(v) & ends(w);
        }

        int road(int x, int y, int what) {
            if (!isPlace(x) || !isPlace(y) || what < 0 || what > 1) return BAD;
            int[][] far = new int[places()][places()];
            for (int a = 0; a < places(); a++) {
                for (int b = 0; b < places(); b++) {
                    far[a][b] = a == b ? 0 : between(a, b) == 1 ? hunger[mark(b)] : 9999;
                }
            }
            for (int m = 0; m < places(); m++) {
                for (int a = 0; a < places(); a++) {
                    for (int b = 0; b < places(); b++) far[a][b] = Math.min(far[a][b], far[a][m] + far[m][b]);
                }
            }
            if (what == 0) return far[x][y];
            if (x == y) return x;
            for (int a = 0; a < places(); a++) {
                if (between(x, a) == 1 && hunger[mark(a)] + far[a][y] == far[x][y]) return a;
            }
            throw new IllegalStateException();
        }

        int fear() {
            int bits = 0;
            for (int m = 0; m < 6; m++) if (!now.marks.contains(m)) bits |= 1 << m;
            return bits;
        }

        /** The sum of the chances of all rows, each as parts of 12^n. */
        BigInteger chance(Walk walk, int n, List<Integer> row) {
            if (row.size() == n + 1) return BigInteger.ONE;
            BigInteger sum = BigInteger.ZERO;
            for (int x = 0; x < places(); x++) {
                if (mark(x) != walk.marks.get(row.size())) continue;
                int parts = 1;
                if (!row.isEmpty()) {
                    int from = row.get(row.size() - 1), many = 0;
                    if (between(from, x) != 1) continue;
                    for (int y = 0; y < places(); y++) if (between(from, y) == 1) many++;
                    parts = 12 / many;
                }
                row.add(x);
                sum = sum.add(chance(walk, n, row).multiply(BigInteger.valueOf(parts)));
                row.remove(row.size() - 1);
            }
            return sum;
        }

        int lost(int w, int n) {
            if (!isWalk(w) || n < 0 || n > 4) return BAD;
            Walk walk = now.walks.get(w);
            if (walk.kind != 0 || walk.marks.size() < n + 1) return NO;
            BigInteger whole = BigInteger.valueOf(12).pow(n).multiply(BigInteger.valueOf(places()));
            return chance(walk, n, new ArrayList<>()).multiply(BigInteger.valueOf(100000)).divide(whole).intValue();
        }

        int huts(int what) {
            if (what < 0 || what > 1) return BAD;
            int[] name = new int[places()];
            for (int x = 0; x < places(); x++) name[x] = x;
            for (int turn = 0; turn < 16; turn++) {
                for (int x = 0; x < places(); x++) {
                    for (int y = 0; y < places(); y++) {
                        if (between(x, y) == 1 && mark(x) == 2 && mark(y) == 2) name[x] = Math.min(name[x], name[y]);
                    }
                }
            }
            int[] many = new int[places()];
            for (int x = 0; x < places(); x++) if (mark(x) == 2) many[name[x]]++;
            return (int) (what == 0 ? Arrays.stream(many).filter(m -> m > 0).count() : Arrays.stream(many).max().getAsInt());
        }

        int flood(int z, int n, int what) {
            if (z < 0 || z > 9999 || n < 1 || n > 40 || what < 0 || what > 1) return BAD;
            State was = now.copy();
            int behind = NONE;
            for (int week = 0; week < n; week++) {
                BigInteger x = BigInteger.valueOf(7919L * z + 6151L * week + 1);
                int draw = x.multiply(x).mod(BigInteger.valueOf(65521)).intValue() / 4;
                trade(now, draw % places(), (draw / 16) % places());
                if (behind == NONE && lied() != 0) behind = week + 1;
            }
            int then = lied();
            now = was;
            return what == 0 ? then : behind;
        }

        int keep() {
            if (kept.size() == 2) return FULL;
            kept.add(now.copy());
            return kept.size();
        }

        int back() {
            if (kept.isEmpty()) return NO;
            now = kept.remove(kept.size() - 1);
            done.clear();
            return kept.size();
        }

        int count(int what) {
            int[] all = {places(), rows, now.walks.size(), done.size(), kept.size(), text.length()};
            return what < 0 || what > 5 ? BAD : all[what];
        }
    }

    private static void due(String call, int got, int want) {
        if (got != want && wrong++ < 40) System.out.println(call + " answered " + got + ", due is " + want);
    }

    /** A place mostly, at times none. */
    private static int pick(Random r, int bound) {
        int n = r.nextInt(40);
        if (n == 0) return -1 - r.nextInt(4);
        if (n == 1) return bound + r.nextInt(4);
        if (n == 2) return r.nextBoolean() ? Integer.MAX_VALUE : Integer.MIN_VALUE;
        return r.nextInt(Math.max(bound, 1));
    }

    private static int pickMarks(Random r, int marks) {
        if (r.nextInt(12) == 0) return r.nextInt(70000) - 100;
        int n = 0, many = 1 + r.nextInt(6);
        if (r.nextInt(5) > 0) many = 2 + r.nextInt(3);
        for (int i = 0; i < many; i++) n = 10 * n + 1 + r.nextInt(marks);
        return n;
    }

    private static String number(Random r, int n) {
        return n < 10 && r.nextInt(6) == 0 ? "0" + n : "" + n;
    }

    private static String pair(Random r, String letter, int a, int b) {
        return letter + number(r, a) + "," + number(r, b) + ";";
    }

    /** Mostly a text without fault: few marks, so that walks can lie. */
    private static String someText(Random r) {
        StringBuilder t = new StringBuilder();
        int rows = 2 + r.nextInt(3), columns = 2 + r.nextInt(3), marks = 2 + r.nextInt(5);
        for (int i = r.nextInt(8) == 0 ? 2 : r.nextInt(6) == 0 ? 0 : 1; i > 0; i--) {
            t.append(pair(r, "d", rows, columns));
            if (i > 1) rows = columns;
        }
        int most = t.length() == 0 ? 16 : rows * columns;
        for (int i = r.nextInt(most + 4); i > 0; i--) t.append(pair(r, "m", r.nextInt(most), r.nextInt(marks)));
        for (int i = r.nextInt(4); i > 0; i--) t.append(pair(r, "h", r.nextInt(6), 1 + r.nextInt(9)));
        for (int i = 1 + r.nextInt(5); i > 0; i--) {
            t.append('w').append(r.nextInt(4));
            for (int k = 2 + r.nextInt(r.nextInt(3) == 0 ? 4 : 2); k > 0; k--) t.append(r.nextInt(marks));
            t.append(';');
        }
        if (r.nextInt(3) == 0) spoil(r, t);
        return t.toString();
    }

    private static void spoil(Random r, StringBuilder t) {
        String letters = "dmhw0123456789,; xD";
        for (int i = 1 + r.nextInt(2); i > 0 && t.length() > 0; i--) {
            int at = r.nextInt(t.length());
            char letter = letters.charAt(r.nextInt(letters.length()));
            switch (r.nextInt(5)) {
                case 0 -> t.deleteCharAt(at);
                case 1 -> t.insert(at, letter);
                case 2 -> t.setCharAt(at, letter);
                case 3 -> t.append(r.nextBoolean() ? "d3,3;" : "w012");
                default -> t.append(letter);
            }
        }
    }

    private static int writeAll(DrawnByLost x, Model m, String text) {
        for (char letter : text.toCharArray()) due("write " + letter, x.write(letter), m.write(letter));
        return text.length();
    }

    private static void callOne(DrawnByLost x, Model m, Random r, String run) {
        int p = m.places(), w = m.now.walks.size();
        int a = pick(r, p), b = pick(r, p), v = pick(r, w), u = pick(r, w), q = pick(r, 2);
        switch (r.nextInt(28)) {
            case 0 -> { int n = pick(r, 130); due(run + "write", x.write(n), m.write(n)); }
            case 1 -> due(run + "fault", x.fault(), m.fault());
            case 2 -> due(run + "place " + a + " " + q, x.place(a, q), m.place(a, q));
            case 3 -> { int k = pick(r, 9) - 3; due(run + "walk " + v + " " + k, x.walk(v, k), m.walk(v, k)); }
            case 4 -> due(run + "swap " + a + " " + b, x.swap(a, b), m.swap(a, b));
            case 5 -> { int n = pick(r, 6); due(run + "alter " + a + " " + n, x.alter(a, n), m.alter(a, n)); }
            case 6 -> {
                int k = pick(r, 4), n = pickMarks(r, 4);
                due(run + "tell " + k + " " + n, x.tell(k, n), m.tell(k, n));
            }
            case 7 -> due(run + "strike " + v, x.strike(v), m.strike(v));
            case 8 -> due(run + "undo", x.undo(), m.undo());
            case 9 -> due(run + "ways " + v, x.ways(v), m.ways(v));
            case 10 -> { int k = pick(r, 7); due(run + "first " + v + " " + k, x.first(v, k), m.first(v, k)); }
            case 11 -> due(run + "ends " + v, x.ends(v), m.ends(v));
            case 12 -> due(run + "lied", x.lied(), m.lied());
            case 13 -> due(run + "nobody", x.nobody(), m.nobody());
            case 14 -> due(run + "may " + a, x.may(a), m.may(a));
            case 15 -> due(run + "moved " + q, x.moved(q), m.moved(q));
            case 16 -> { int k = pick(r, 6) - 1; due(run + "known " + a + " " + k, x.known(a, k), m.known(a, k)); }
            case 17 -> due(run + "round " + v, x.round(v), m.round(v));
            case 18 -> due(run + "meet " + v + " " + u, x.meet(v, u), m.meet(v, u));
            case 19 -> due(run + "road " + a + " " + b + " " + q, x.road(a, b, q), m.road(a, b, q));
            case 20 -> due(run + "fear", x.fear(), m.fear());
            case 21 -> { int n = pick(r, 5); due(run + "lost " + v + " " + n, x.lost(v, n), m.lost(v, n)); }
            case 22 -> due(run + "huts " + q, x.huts(q), m.huts(q));
            case 23 -> {
                int z = pick(r, 10000), n = pick(r, r.nextBoolean() ? 41 : 6);
                due(run + "flood " + z + " " + n + " " + q, x.flood(z, n, q), m.flood(z, n, q));
            }
            case 24 -> due(run + "keep", x.keep(), m.keep());
            case 25 -> due(run + "back", x.back(), m.back());
            case 26 -> { int n = pick(r, 6); due(run + "count " + n, x.count(n), m.count(n)); }
            default -> due(run + "lay", x.lay(), m.lay());
        }
    }

    /** All that can be seen of the state. */
    private static void lookAll(DrawnByLost x, Model m, String run) {
        for (int n = 0; n < 6; n++) due(run + "count " + n, x.count(n), m.count(n));
        for (int p = 0; p < m.places(); p++) due(run + "place " + p, x.place(p, 0), m.place(p, 0));
        for (int w = 0; w < m.now.walks.size(); w++) {
            for (int k = -2; k < 5; k++) due(run + "walk " + w + " " + k, x.walk(w, k), m.walk(w, k));
        }
    }

    public static void main(String[] args) {
        for (int run = 0; run < 1500; run++) {
            Random r = new Random(run);
            DrawnByLost x = new DrawnByLost();
            Model m = new Model();
            int calls = 0;
            for (int part = 0; part < 3; part++) {
                if (part > 0 || run % 3 > 0) {
                    String text = someText(r);
                    due("wipe", x.wipe(), m.wipe());
                    due("count 5", x.count(5), m.count(5));
                    if (calls + text.length() > 300) break;
                    calls += writeAll(x, m, text) + 4;
                    due("fault of " + text, x.fault(), m.fault());
                    due("lay of " + text, x.lay(), m.lay());
                }
                for (int call = 0; call < 40; call++, calls++) {
                    callOne(x, m, r, "run " + run + ", " + m.text + " " + call + ": ");
                }
            }
            lookAll(x, m, "run " + run + " at its end: ");
        }
        System.out.println(wrong == 0 ? "all answers are as due" : wrong + " answers are not as due");
        if (wrong != 0) System.exit(1);
    }
}
