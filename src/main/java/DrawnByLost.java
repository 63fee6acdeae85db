/** A delta whose maps are drawn by the lost; ../shared/DOC.md tells what each call answers. */
public final class DrawnByLost {
    public static final int BAD = -1, NO = -2, FULL = -3, NONE = -4;

    private static final int MARKS = 6;
    private static final int MOST_PLACES = 16;
    private static final int MOST_WALKS = 5;
    private static final int MOST_TOLD = 5;
    private static final int MOST_LETTERS = 200;
    private static final int MOST_UNDONE = 8;
    private static final int MOST_KEPT = 2;
    private static final int MOST_SPELT = 4;
    private static final int PLAIN = 0, TURNED = 1, HUNGRY = 2, LIAR = 3;
    private static final int UP = 0, DOWN = 1, RIGHT = 2, LEFT = 3, DIRECTIONS = 4;
    private static final int BLIND = 1;
    private static final int HUT = 2;
    private static final String FIRST_TEXT =
        "d3,4;m1,1;m2,2;m4,3;m5,1;m7,4;m9,2;m10,5;h5,2;w0012;w1213;w2354;w301;w0315;";

    private final Reader reader = new Reader();
    private final Finder finder = new Finder();
    private final Land land = finder.land;
    private final Story now = new Story();
    private final Story trial = new Story();
    private final Pile done = new Pile(MOST_UNDONE);
    private final Pile kept = new Pile(MOST_KEPT);
    private final Traveller traveller = new Traveller();
    private final Speller speller = new Speller();

    public DrawnByLost() {
        for (int i = 0; i < FIRST_TEXT.length(); i++) {
            reader.put(FIRST_TEXT.charAt(i));
        }
        takeOver();
        reader.clear();
    }

    // ---- deltas

    public int write(int letter) {
        if (letter < 32 || letter > 126) {
            return BAD;
        }
        return reader.put((char) letter) ? reader.length : FULL;
    }

    public int wipe() {
        int was = reader.length;
        reader.clear();
        return was;
    }

    public int fault() {
        return reader.read();
    }

    public int lay() {
        if (!takeOver()) {
            return NO;
        }
        done.clear();
        kept.clear();
        return land.places();
    }

    public int place(int x, int what) {
        if (!isPlace(x) || !isChoice(what)) {
            return BAD;
        }
        return what == 0 ? now.marks[x] : present().seen(x);
    }

    public int walk(int w, int k) {
        if (!isWalk(w) || k < -2) {
            return BAD;
        }
        if (k == -2) {
            return now.kindOf(w);
        }
        if (k == -1) {
            return now.sizeOf(w);
        }
        return k < now.sizeOf(w) ? now.toldMark(w, k) : NONE;
    }

    // ---- acts

    public int swap(int x, int y) {
        if (!isPlace(x) || !isPlace(y) || x == y) {
            return BAD;
        }
        done.push(now);
        now.trade(x, y);
        return now.marks[x];
    }

    public int alter(int x, int m) {
        if (!isPlace(x) || !isMark(m)) {
            return BAD;
        }
        done.push(now);
        int was = now.marks[x];
        now.marks[x] = m;
        return was;
    }

    public int tell(int kind, int marks) {
        if (!isKind(kind) || !areFigures(marks)) {
            return BAD;
        }
        if (now.walks >= MOST_WALKS) {
            return FULL;
        }
        done.push(now);
        now.begin(kind);
        for (int unit = 10000; unit > 0; unit /= 10) {
            if (marks >= unit) {
                now.append(marks / unit % 10 - 1);
            }
        }
        return now.walks;
    }

    public int strike(int w) {
        if (!isWalk(w)) {
            return BAD;
        }
        done.push(now);
        now.drop(w);
        return now.walks;
    }

    public int undo() {
        return done.pop(now) ? done.size : NO;
    }

    // ---- walks

    public int ways(int w) {
        return isWalk(w) ? present().rowsOf(now, w) : BAD;
    }

    public int first(int w, int k) {
        if (!isWalk(w) || k < 0) {
            return BAD;
        }
        return k < now.sizeOf(w) ? present().onFirstRow(now, w, k) : NONE;
    }

    public int ends(int w) {
        return isWalk(w) ? present().endsOf(now, w) : BAD;
    }

    public int lied() {
        return present().liars(now);
    }

    public int nobody() {
        return land.all & ~present().passed(now);
    }

    public int may(int x) {
        if (!isPlace(x)) {
            return BAD;
        }
        trial.copy(now);
        int bits = 0;
        for (int mark = 0; mark < MARKS; mark++) {
            trial.marks[x] = mark;
            if (allCanLie(trial)) {
                bits |= 1 << mark;
            }
        }
        return bits;
    }

    public int moved(int what) {
        if (!isChoice(what)) {
            return BAD;
        }
        trial.copy(now);
        int many = 0;
        for (int x = 0; x < land.places(); x++) {
            for (int y = x + 1; y < land.places(); y++) {
                if (!wouldMend(x, y)) {
                    continue;
                }
                if (what == 1) {
                    return 16 * x + y;
                }
                many++;
            }
        }
        return what == 1 ? NONE : many;
    }

    public int known(int x, int k) {
        if (!isPlace(x) || k < -1 || k >= MOST_SPELT) {
            return BAD;
        }
        int size = speller.spell(present(), 1 << x);
        if (size == 0 || k >= size) {
            return NONE;
        }
        return k == -1 ? size : speller.word[k];
    }

    public int round(int w) {
        if (!isWalk(w)) {
            return BAD;
        }
        return present().comesBack(now, w) ? 1 : 0;
    }

    public int meet(int v, int w) {
        if (!isWalk(v) || !isWalk(w) || v == w) {
            return BAD;
        }
        present();
        return finder.endsOf(now, v) & finder.endsOf(now, w);
    }

    // ---- roads

    public int road(int x, int y, int what) {
        if (!isPlace(x) || !isPlace(y) || !isChoice(what)) {
            return BAD;
        }
        traveller.measure(land, now.marks, y);
        return what == 0 ? traveller.left[x] : traveller.next(land, now.marks, x);
    }

    public int fear() {
        present();
        int bits = 0;
        for (int mark = 0; mark < MARKS; mark++) {
            if (finder.placesOf(mark) == 0) {
                bits |= 1 << mark;
            }
        }
        return bits;
    }

    public int lost(int w, int n) {
        if (!isWalk(w) || n < 0 || n >= MOST_TOLD) {
            return BAD;
        }
        if (now.kindOf(w) != PLAIN || now.sizeOf(w) <= n) {
            return NO;
        }
        return traveller.chance(present(), now, w, n);
    }

    public int huts(int what) {
        if (!isChoice(what)) {
            return BAD;
        }
        present();
        int left = finder.placesOf(HUT);
        int sets = 0;
        int greatest = 0;
        for (int x = 0; x < land.places(); x++) {
            if ((left >> x & 1) == 1) {
                int set = finder.joined(1 << x, left);
                left &= ~set;
                sets++;
                greatest = Math.max(greatest, Integer.bitCount(set));
            }
        }
        return what == 0 ? sets : greatest;
    }

    public int flood(int z, int n, int what) {
        if (z < 0 || z > 9999 || n < 1 || n > 40 || !isChoice(what)) {
            return BAD;
        }
        trial.copy(now);
        for (int week = 0; week < n; week++) {
            wash(z, week);
            if (what == 1 && !allCanLie(trial)) {
                return week + 1;
            }
        }
        if (what == 1) {
            return NONE;
        }
        finder.look(trial.marks);
        return finder.liars(trial);
    }

    // ---- kept

    public int keep() {
        if (kept.size >= MOST_KEPT) {
            return FULL;
        }
        kept.push(now);
        return kept.size;
    }

    public int back() {
        if (!kept.pop(now)) {
            return NO;
        }
        done.clear();
        return kept.size;
    }

    public int count(int what) {
        switch (what) {
            case 0: return land.places();
            case 1: return land.rows;
            case 2: return now.walks;
            case 3: return done.size;
            case 4: return kept.size;
            case 5: return reader.length;
            default: return BAD;
        }
    }

    // ---- helpers

    private boolean isPlace(int x) {
        return x >= 0 && x < land.places() && x < MOST_PLACES;
    }

    private boolean isWalk(int w) {
        return w >= 0 && w < now.walks && w < MOST_WALKS;
    }

    private static boolean isMark(int m) {
        return m >= 0 && m < MARKS;
    }

    private static boolean isKind(int kind) {
        return kind >= PLAIN && kind <= LIAR;
    }

    private static boolean isChoice(int what) {
        return what == 0 || what == 1;
    }

    /** Whether these are two to five figures 1 to 6. */
    private static boolean areFigures(int marks) {
        if (marks < 11 || marks > 66666) {
            return false;
        }
        for (int unit = 1; unit <= 10000; unit *= 10) {
            int figure = marks / unit % 10;
            if (marks >= unit && (figure < 1 || figure > MARKS)) {
                return false;
            }
        }
        return true;
    }

    /** Takes what THE TEXT tells as the delta of now, unless it has a fault or no walk. */
    private boolean takeOver() {
        if (reader.read() != NONE || reader.story.walks == 0) {
            return false;
        }
        land.copy(reader.land);
        now.copy(reader.story);
        return true;
    }

    private Finder present() {
        finder.look(now.marks);
        return finder;
    }

    private boolean allCanLie(Story story) {
        finder.look(story.marks);
        for (int w = 0; w < story.walks; w++) {
            if (finder.goFrom(story, w, land.all) == 0) {
                return false;
            }
        }
        return true;
    }

    /** Whether nobody would have lied with these two swapped; the trial is left as it was. */
    private boolean wouldMend(int x, int y) {
        if (!isPlace(x) || !isPlace(y) || trial.marks[x] == trial.marks[y]) {
            return false;
        }
        trial.trade(x, y);
        boolean mends = allCanLie(trial);
        trial.trade(x, y);
        return mends;
    }

    private void wash(int z, int week) {
        int places = land.places();
        if (places <= 0) {
            return;
        }
        // The square stands above what an int holds.
        long x = 7919L * z + 6151L * week + 1L;
        int draw = (int) (x * x % 65521L / 4L);
        trial.trade(draw % places, draw / 16 % places);
    }

    /** The places' shape and the hunger; a set of places is an int, place p its bit p. */
    private static final class Land {
        int rows;
        int columns;
        int all;
        int firstColumn;
        int lastColumn;
        final int[] hunger = new int[MARKS];

        void shape(int newRows, int newColumns) {
            rows = newRows;
            columns = newColumns;
            all = (1 << rows * columns) - 1;
            firstColumn = 0;
            for (int row = 0; row < rows; row++) {
                firstColumn |= 1 << row * columns;
            }
            lastColumn = firstColumn << columns - 1;
        }

        int places() {
            return rows * columns;
        }

        int hungerOf(int mark) {
            return isMark(mark) ? hunger[mark] : 0;
        }

        void copy(Land other) {
            shape(other.rows, other.columns);
            System.arraycopy(other.hunger, 0, hunger, 0, MARKS);
        }

        /** The places one step from these; what would leave the delta falls away. */
        int step(int direction, int set) {
            switch (direction) {
                case UP: return set >>> columns;
                case DOWN: return set << columns & all;
                case RIGHT: return (set & ~lastColumn) << 1;
                default: return (set & ~firstColumn) >>> 1;
            }
        }

        int beside(int set) {
            return step(UP, set) | step(DOWN, set) | step(RIGHT, set) | step(LEFT, set);
        }

        /** The places one or two steps from these, none by a step there and back. */
        int withinTwo(int set) {
            int up = step(UP, set);
            int down = step(DOWN, set);
            int right = step(RIGHT, set);
            int left = step(LEFT, set);
            return up | down | right | left | step(UP, up) | step(DOWN, down)
                | step(RIGHT, right | up | down) | step(LEFT, left | up | down);
        }

        int elsewhere(int set) {
            if (set == 0) {
                return 0;
            }
            return Integer.bitCount(set) == 1 ? all & ~set : all;
        }

        /** Where a walker of this kind may be behind one of these places. */
        int reach(int kind, int set) {
            switch (kind) {
                case HUNGRY: return withinTwo(set);
                case LIAR: return elsewhere(set);
                default: return beside(set);
            }
        }
    }

    /** What the acts change: the places' marks and the walks. */
    private static final class Story {
        final int[] marks = new int[MOST_PLACES];
        final int[] kinds = new int[MOST_WALKS];
        final int[] sizes = new int[MOST_WALKS];
        final int[] told = new int[MOST_WALKS * MOST_TOLD];
        int walks;

        void clear() {
            for (int x = 0; x < MOST_PLACES; x++) {
                marks[x] = 0;
            }
            walks = 0;
        }

        void copy(Story other) {
            System.arraycopy(other.marks, 0, marks, 0, MOST_PLACES);
            System.arraycopy(other.kinds, 0, kinds, 0, MOST_WALKS);
            System.arraycopy(other.sizes, 0, sizes, 0, MOST_WALKS);
            System.arraycopy(other.told, 0, told, 0, MOST_WALKS * MOST_TOLD);
            walks = other.walks;
        }

        void trade(int x, int y) {
            if (x < 0 || x >= MOST_PLACES || y < 0 || y >= MOST_PLACES) {
                return;
            }
            int mark = marks[x];
            marks[x] = marks[y];
            marks[y] = mark;
        }

        boolean begin(int kind) {
            if (walks < 0 || walks >= MOST_WALKS) {
                return false;
            }
            kinds[walks] = kind;
            sizes[walks] = 0;
            walks++;
            return true;
        }

        boolean append(int mark) {
            int w = walks - 1;
            if (w < 0 || w >= MOST_WALKS || sizes[w] < 0 || sizes[w] >= MOST_TOLD) {
                return false;
            }
            told[w * MOST_TOLD + sizes[w]] = mark;
            sizes[w]++;
            return true;
        }

        void drop(int w) {
            if (w < 0 || w >= walks) {
                return;
            }
            for (int to = w; to + 1 < walks && to + 1 < MOST_WALKS; to++) {
                kinds[to] = kinds[to + 1];
                sizes[to] = sizes[to + 1];
                for (int k = 0; k < MOST_TOLD; k++) {
                    told[to * MOST_TOLD + k] = told[(to + 1) * MOST_TOLD + k];
                }
            }
            walks--;
        }

        int kindOf(int w) {
            return w >= 0 && w < MOST_WALKS ? kinds[w] : PLAIN;
        }

        int sizeOf(int w) {
            return w >= 0 && w < MOST_WALKS ? sizes[w] : 0;
        }

        int toldMark(int w, int k) {
            if (w < 0 || w >= MOST_WALKS || k < 0 || k >= MOST_TOLD) {
                return NONE;
            }
            return told[w * MOST_TOLD + k];
        }

        /** The mark of the i-th place of a row along which the walk lies. */
        int rowMark(int w, int i) {
            return kindOf(w) == TURNED ? toldMark(w, sizeOf(w) - 1 - i) : toldMark(w, i);
        }
    }

    /** The latest stories, the newest on top; one too many pushes the oldest out. */
    private static final class Pile {
        private final Story[] stories;
        int size;

        Pile(int room) {
            stories = new Story[Math.max(room, 1)];
            for (int i = 0; i < stories.length; i++) {
                stories[i] = new Story();
            }
        }

        void clear() {
            size = 0;
        }

        void push(Story story) {
            if (size >= stories.length) {
                turnOldestUp();
                size = stories.length - 1;
            }
            stories[size].copy(story);
            size++;
        }

        boolean pop(Story into) {
            if (size <= 0 || size > stories.length) {
                return false;
            }
            size--;
            into.copy(stories[size]);
            return true;
        }

        private void turnOldestUp() {
            Story oldest = stories[0];
            for (int i = 1; i < stories.length; i++) {
                stories[i - 1] = stories[i];
            }
            stories[stories.length - 1] = oldest;
        }
    }

    /** THE TEXT, and the delta that it tells as far as it has been read. */
    private static final class Reader {
        private final char[] letters = new char[MOST_LETTERS];
        int length;
        private int at;
        private int left;
        private int right;
        private boolean onlyDeltas;
        final Land land = new Land();
        final Story story = new Story();

        boolean put(char letter) {
            if (length < 0 || length >= MOST_LETTERS) {
                return false;
            }
            letters[length] = letter;
            length++;
            return true;
        }

        void clear() {
            length = 0;
        }

        /** Reads the whole text: where its first fault is, or NONE. */
        int read() {
            at = 0;
            onlyDeltas = true;
            land.shape(4, 4);
            for (int mark = 0; mark < MARKS; mark++) {
                land.hunger[mark] = mark + 1;
            }
            story.clear();
            for (int turn = 0; turn < MOST_LETTERS && at < length; turn++) {
                int begin = at;
                if (!readItem()) {
                    return begin;
                }
            }
            return NONE;
        }

        private boolean readItem() {
            switch (next()) {
                case 'd': return onlyDeltas && readPair() && takeShape();
                case 'm': return readPair() && takeMark();
                case 'h': return readPair() && takeHunger();
                case 'w': return readWalk();
                default: return false;
            }
        }

        private boolean takeShape() {
            if (left < 2 || left > 4 || right < 2 || right > 4) {
                return false;
            }
            land.shape(left, right);
            return true;
        }

        private boolean takeMark() {
            onlyDeltas = false;
            if (left < 0 || left >= land.places() || left >= MOST_PLACES || !isMark(right)) {
                return false;
            }
            story.marks[left] = right;
            return true;
        }

        private boolean takeHunger() {
            onlyDeltas = false;
            if (!isMark(left) || right < 1 || right > 9) {
                return false;
            }
            land.hunger[left] = right;
            return true;
        }

        private boolean readWalk() {
            onlyDeltas = false;
            int kind = figure(next());
            if (!isKind(kind) || !story.begin(kind)) {
                return false;
            }
            int many = 0;
            for (int turn = 0; turn <= MOST_TOLD; turn++) {
                int letter = next();
                if (letter == ';') {
                    return many >= 2;
                }
                int mark = figure(letter);
                if (!isMark(mark) || !story.append(mark)) {
                    return false;
                }
                many++;
            }
            return false;
        }

        private boolean readPair() {
            left = number();
            if (left < 0 || next() != ',') {
                return false;
            }
            right = number();
            return right >= 0 && next() == ';';
        }

        /** One or two figures; -1: there is none. */
        private int number() {
            int tens = figure(peek());
            at++;
            int ones = figure(peek());
            if (tens < 0 || ones < 0) {
                return tens;
            }
            at++;
            return 10 * tens + ones;
        }

        private int next() {
            int letter = peek();
            at++;
            return letter;
        }

        private int peek() {
            return at >= 0 && at < length && at < MOST_LETTERS ? letters[at] : -1;
        }

        private static int figure(int letter) {
            return letter >= '0' && letter <= '9' ? letter - '0' : -1;
        }
    }

    /** Finds the rows of places along which walks can lie, by the marks looked at last. */
    private static final class Finder {
        final Land land = new Land();
        private final int[] spots = new int[MARKS];
        private final int[] ahead = new int[MOST_TOLD];
        private final int[] behind = new int[MOST_TOLD];
        private final int[] tally = new int[MOST_PLACES];
        private final int[] later = new int[MOST_PLACES];

        void look(int[] marks) {
            for (int mark = 0; mark < MARKS; mark++) {
                spots[mark] = 0;
            }
            for (int x = 0; x < land.places() && x < marks.length; x++) {
                if (isMark(marks[x])) {
                    spots[marks[x]] |= 1 << x;
                }
            }
        }

        int placesOf(int mark) {
            return isMark(mark) ? spots[mark] : 0;
        }

        int endsOf(Story story, int w) {
            return goFrom(story, w, land.all);
        }

        int liars(Story story) {
            int bits = 0;
            for (int w = 0; w < story.walks; w++) {
                if (goFrom(story, w, land.all) == 0) {
                    bits |= 1 << w;
                }
            }
            return bits;
        }

        boolean comesBack(Story story, int w) {
            for (int x = 0; x < land.places(); x++) {
                if ((goFrom(story, w, 1 << x) >> x & 1) == 1) {
                    return true;
                }
            }
            return false;
        }

        /** The places on the rows of all walks. */
        int passed(Story story) {
            int set = 0;
            for (int w = 0; w < story.walks; w++) {
                goFrom(story, w, land.all);
                goBack(story, w);
                for (int i = 0; i < story.sizeOf(w) && i < MOST_TOLD; i++) {
                    set |= ahead[i] & behind[i];
                }
            }
            return set;
        }

        /** The k-th place of the first row of a walk, or NONE. */
        int onFirstRow(Story story, int w, int k) {
            goBack(story, w);
            int x = lowest(behind[0]);
            for (int i = 1; i <= k && i < MOST_TOLD && x != NONE; i++) {
                x = lowest(land.reach(story.kindOf(w), 1 << x) & behind[i]);
            }
            return x;
        }

        int rowsOf(Story story, int w) {
            int kind = story.kindOf(w);
            int set = placesOf(story.rowMark(w, 0));
            for (int x = 0; x < MOST_PLACES; x++) {
                tally[x] = set >> x & 1;
            }
            for (int i = 1; i < story.sizeOf(w); i++) {
                addUp(kind, placesOf(story.rowMark(w, i)));
            }
            int sum = 0;
            for (int x = 0; x < MOST_PLACES; x++) {
                sum += tally[x];
            }
            return sum;
        }

        /** The places of this set that are joined with the one at the start. */
        int joined(int start, int set) {
            int grown = start;
            for (int turn = 0; turn < MOST_PLACES; turn++) {
                grown |= land.beside(grown) & set;
            }
            return grown;
        }

        /** Where the walk may end that begins in one of these places; all between is in ahead. */
        int goFrom(Story story, int w, int begin) {
            int set = begin & placesOf(story.rowMark(w, 0));
            ahead[0] = set;
            for (int i = 1; i < story.sizeOf(w) && i < MOST_TOLD; i++) {
                set = land.reach(story.kindOf(w), set) & placesOf(story.rowMark(w, i));
                ahead[i] = set;
            }
            return set;
        }

        /** Fills behind: the i-th are the places from which the rest of the walk can go on. */
        private void goBack(Story story, int w) {
            int last = Math.min(story.sizeOf(w), MOST_TOLD) - 1;
            int set = land.all;
            for (int i = last; i >= 0; i--) {
                set = (i == last ? set : land.reach(story.kindOf(w), set)) & placesOf(story.rowMark(w, i));
                behind[i] = set;
            }
        }

        /** One step on: rows that end in each place of the set, out of those that end in each place now. */
        private void addUp(int kind, int set) {
            for (int x = 0; x < MOST_PLACES; x++) {
                later[x] = 0;
                int from = (set >> x & 1) == 1 ? land.reach(kind, 1 << x) : 0;
                for (int y = 0; y < MOST_PLACES; y++) {
                    if ((from >> y & 1) == 1) {
                        later[x] += tally[y];
                    }
                }
            }
            System.arraycopy(later, 0, tally, 0, MOST_PLACES);
        }

        private static int lowest(int set) {
            for (int x = 0; x < MOST_PLACES; x++) {
                if ((set >> x & 1) == 1) {
                    return x;
                }
            }
            return NONE;
        }

        int seen(int x) {
            int many = 0;
            for (int direction = 0; direction < DIRECTIONS; direction++) {
                int spot = land.step(direction, 1 << x);
                for (int turn = 0; turn < MOST_PLACES && spot != 0; turn++) {
                    many++;
                    spot = land.step(direction, spot & ~placesOf(BLIND));
                }
            }
            return many;
        }
    }

    /** Finds the fewest marks by which a plain walker's end is known. */
    private static final class Speller {
        final int[] word = new int[MOST_SPELT];
        private final int[] ends = new int[MOST_SPELT];

        /** How many marks, told in word, end in this set of places alone; 0: none do. */
        int spell(Finder finder, int goal) {
            int words = 1;
            for (int size = 1; size <= MOST_SPELT; size++) {
                words *= MARKS;
                if (spellIn(finder, size, words, goal)) {
                    return size;
                }
            }
            return 0;
        }

        private boolean spellIn(Finder finder, int size, int words, int goal) {
            for (int i = 0; i < MOST_SPELT; i++) {
                word[i] = 0;
            }
            int from = 0;
            for (int turn = 0; turn < words && from >= 0; turn++) {
                endAgain(finder, from, size);
                if (ends[size - 1] == goal) {
                    return true;
                }
                from = turnOn(size);
            }
            return false;
        }

        /** Ends of the word's beginnings, anew from the mark that is another one now. */
        private void endAgain(Finder finder, int from, int size) {
            for (int i = Math.max(from, 0); i < size && i < MOST_SPELT; i++) {
                int reach = i == 0 ? finder.land.all : finder.land.beside(ends[i - 1]);
                ends[i] = reach & finder.placesOf(word[i]);
            }
        }

        /** Makes it the next word: the first mark that is another one then, -1 behind the last word. */
        private int turnOn(int size) {
            for (int i = Math.min(size, MOST_SPELT) - 1; i >= 0; i--) {
                word[i]++;
                if (word[i] < MARKS) {
                    return i;
                }
                word[i] = 0;
            }
            return -1;
        }
    }

    /** Goes about the delta: by the least hunger, by chance. */
    private static final class Traveller {
        private static final int FAR = 1000000;
        private static final int SHARES = 12;
        final int[] left = new int[MOST_PLACES];
        private final int[] odds = new int[MOST_PLACES];
        private final int[] later = new int[MOST_PLACES];

        /** Fills left: the least hunger from each place to this one. */
        void measure(Land land, int[] marks, int goal) {
            for (int x = 0; x < MOST_PLACES; x++) {
                left[x] = x == goal ? 0 : FAR;
            }
            boolean changed = true;
            for (int turn = 0; turn < MOST_PLACES && changed; turn++) {
                changed = false;
                for (int x = 0; x < land.places() && x < MOST_PLACES; x++) {
                    int least = leastOn(land, marks, x);
                    if (least < left[x]) {
                        left[x] = least;
                        changed = true;
                    }
                }
            }
        }

        /** The next place from here to where was measured, of several the lowest. */
        int next(Land land, int[] marks, int x) {
            if (x < 0 || x >= MOST_PLACES || left[x] == 0) {
                return x;
            }
            for (int y = 0; y < MOST_PLACES; y++) {
                if (isBeside(land, x, y) && through(land, marks, y) == left[x]) {
                    return y;
                }
            }
            return x;
        }

        private int leastOn(Land land, int[] marks, int x) {
            int least = FAR;
            for (int y = 0; y < MOST_PLACES; y++) {
                if (isBeside(land, x, y)) {
                    least = Math.min(least, through(land, marks, y));
                }
            }
            return least;
        }

        private int through(Land land, int[] marks, int y) {
            return y >= 0 && y < marks.length && y < MOST_PLACES ? land.hungerOf(marks[y]) + left[y] : FAR;
        }

        private static boolean isBeside(Land land, int x, int y) {
            return (land.beside(1 << x) >> y & 1) == 1;
        }

        /** How many of 100000 who go n times on by chance go past the first n and 1 marks of this walk. */
        int chance(Finder finder, Story story, int w, int n) {
            int set = finder.placesOf(story.toldMark(w, 0));
            for (int x = 0; x < MOST_PLACES; x++) {
                odds[x] = set >> x & 1;
            }
            long whole = finder.land.places();
            for (int i = 1; i <= n; i++) {
                goOn(finder.land, finder.placesOf(story.toldMark(w, i)));
                whole *= SHARES;
            }
            long part = 0;
            for (int x = 0; x < MOST_PLACES; x++) {
                part += odds[x];
            }
            return whole <= 0 ? 0 : (int) (100000L * part / whole);
        }

        /** Twelve shares for each one now, as two, three and four places beside all divide them. */
        private void goOn(Land land, int set) {
            for (int x = 0; x < MOST_PLACES; x++) {
                later[x] = 0;
            }
            for (int x = 0; x < land.places() && x < MOST_PLACES; x++) {
                int beside = land.beside(1 << x);
                int many = Integer.bitCount(beside);
                int share = many == 0 ? 0 : odds[x] * (SHARES / many);
                for (int y = 0; y < MOST_PLACES; y++) {
                    if ((beside & set & 1 << y) != 0) {
                        later[y] += share;
                    }
                }
            }
            System.arraycopy(later, 0, odds, 0, MOST_PLACES);
        }
    }
}
