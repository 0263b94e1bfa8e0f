/**
 * A desk for families of sets and their blockers. A set of POINTS is an int of bits, and a family of
 * sets is a long: its bit s tells whether the set s is of it (6 POINTS make 64 sets, no more).
 */
public final class BlockerDesk {
    public static final int BAD = -1, NOT = -2, FULL = -3, STATE = -5, VOID = Integer.MIN_VALUE;

    private static final int SHELF_EMPTY = -11, SHELF_OTHER = -12, ROW_OUTSIDE = -13, ROW_BELOW = -14;
    private static final int MOST_POINTS = 6, FIRST_POINTS = 4, MOST_WEIGHT = 9, KINDS = 5;
    private static final int MOST_STEPS = 10, SHELVES = 4, ROW_ROOM = 40, TAPE_ROOM = 80, TRACE_ROOM = 24;
    /** The longest family written out has twenty sets of three points: 79 bytes. */
    private static final int WRITTEN_ROOM = 80;
    private static final int ALL_SETS = 64;
    private static final int HOLDS_NOTHING = 0, HOLDS_FAMILY = 1, HOLDS_ROW = 2;
    private static final int WORDS = 8;
    private static final int ADD = 0, TAKE = 1, DROP = 2, DOUBLE = 3, WEIGH = 4, KIND = 5, POINTS = 6, TURN = 7;

    /** For each POINT all sets with it. */
    private static final long[] WITH = {
        0xAAAAAAAAAAAAAAAAL, 0xCCCCCCCCCCCCCCCCL, 0xF0F0F0F0F0F0F0F0L,
        0xFF00FF00FF00FF00L, 0xFFFF0000FFFF0000L, 0xFFFFFFFF00000000L
    };
    /** For each number of points all sets that have so many. */
    private static final long[] SIZED = {
        0x0000000000000001L, 0x0000000100010116L, 0x0001011601161668L, 0x0116166816686880L,
        0x1668688068808000L, 0x6880800080000000L, 0x8000000000000000L
    };
    /** For each n all sets of n POINTS. */
    private static final long[] WITHIN = {
        0x1L, 0x3L, 0xFL, 0xFFL, 0xFFFFL, 0xFFFFFFFFL, 0xFFFFFFFFFFFFFFFFL
    };
    private static final int[] POWERS_OF_3 = {1, 3, 9, 27, 81, 243, 729};
    /** For each set the number to the base 3 that has a figure 1 for each of its points. */
    private static final int[] IN_BASE_3 = {
        0, 1, 3, 4, 9, 10, 12, 13, 27, 28, 30, 31, 36, 37, 39, 40,
        81, 82, 84, 85, 90, 91, 93, 94, 108, 109, 111, 112, 117, 118, 120, 121,
        243, 244, 246, 247, 252, 253, 255, 256, 270, 271, 273, 274, 279, 280, 282, 283,
        324, 325, 327, 328, 333, 334, 336, 337, 351, 352, 354, 355, 360, 361, 363, 364
    };

    private final Board board = new Board();
    private final Board before = new Board();
    private final Board kept = new Board();
    private boolean hasImage = false;
    private final Board[] steps = new Board[MOST_STEPS];
    private int stepCount = 0;
    private final Shelf[] shelves = new Shelf[SHELVES];
    private final Row tape = new Row(TAPE_ROOM);
    private final Row written = new Row(WRITTEN_ROOM);
    private final Row ran = new Row(TRACE_ROOM);
    private final Reader reader = new Reader(tape);
    private final Point[] kinds = {new Point(ran), new Hard(ran), new Soft(ran), new Twin(ran), new Core(ran)};
    /** For each state of what is left of POINTS how many sets lead to it at most: the work of nu(2). */
    private final int[] most = new int[729];

    public BlockerDesk() {
        for (int i = 0; i < MOST_STEPS; i++) {
            steps[i] = new Board();
        }
        for (int i = 0; i < SHELVES; i++) {
            shelves[i] = new Shelf();
        }
    }

    // ---- POINTS and THE FAMILY

    public int points(int n) {
        if (n < 1 || n > MOST_POINTS) {
            return BAD;
        }
        int was = board.n;
        board.start(n);
        stepCount = 0;
        return was;
    }

    public int weight(int point, int v) {
        if (!isPoint(point) || v < 0 || v > MOST_WEIGHT) {
            return BAD;
        }
        int was = board.weightOf[point];
        before.copy(board);
        board.weightOf[point] = v;
        noteStep();
        return was;
    }

    public int kind(int point, int k) {
        if (!isPoint(point) || !isKind(k)) {
            return BAD;
        }
        int was = board.kindOf[point];
        before.copy(board);
        board.kindOf[point] = k;
        noteStep();
        return was;
    }

    public int of(int point, int what) {
        if (!isPoint(point)) {
            return BAD;
        }
        long sets = board.family & WITH[point];
        switch (what) {
            case 0: return board.kindOf[point];
            case 1: return board.weightOf[point];
            case 2: return pointAt(point).weighs();
            case 3: return Sets.size(sets);
            case 4: return Sets.union(sets) & ~(1 << point);
            default: return BAD;
        }
    }

    public int add(int set) {
        if (!isSet(set)) {
            return BAD;
        }
        long next = Sets.inner(board.family | 1L << set);
        if (next == board.family) {
            return 0;
        }
        become(next);
        return 1;
    }

    public int take(int set) {
        if (!isSet(set)) {
            return BAD;
        }
        if (!Sets.has(board.family, set)) {
            return NOT;
        }
        return become(board.family & ~(1L << set));
    }

    public int drop(int point, int how) {
        if (!isPoint(point) || how < 0 || how > 1) {
            return BAD;
        }
        if (board.n == 1) {
            return STATE;
        }
        before.copy(board);
        int bit = 1 << point;
        long left = how == 0 ? Sets.minorOf(board.family, bit, 0) : Sets.minorOf(board.family, 0, bit);
        board.family = Sets.closeGap(left, point);
        board.removePoint(point);
        noteStep();
        return Sets.size(board.family);
    }

    public int doubled(int point) {
        if (!isPoint(point)) {
            return BAD;
        }
        if (board.n == MOST_POINTS) {
            return FULL;
        }
        before.copy(board);
        board.family = Sets.withTwin(board.family, point, board.n);
        board.appendLike(point);
        noteStep();
        return Sets.size(board.family);
    }

    public int turn() {
        return become(Sets.blockerOf(board.family, board.n));
    }

    public int set(int i) {
        return Sets.pick(board.family, i);
    }

    public int blocker(int i) {
        return Sets.pick(Sets.blockerOf(board.family, board.n), i);
    }

    public int is(int set, int what) {
        if (!isSet(set)) {
            return BAD;
        }
        switch (what) {
            case 0: return Sets.has(board.family, set) ? 1 : 0;
            case 1: return Sets.has(Sets.coversOf(board.family, board.n), set) ? 1 : 0;
            case 2: return Sets.has(Sets.above(board.family), set) ? 1 : 0;
            default: return BAD;
        }
    }

    // ---- what is asked of THE FAMILY

    public int minor(int d, int c, int i) {
        if (!isSet(d) || !isSet(c) || (d & c) != 0) {
            return BAD;
        }
        return Sets.pick(Sets.minorOf(board.family, d, c), i);
    }

    public int tau(int what) {
        if (what < 0 || what > 1) {
            return BAD;
        }
        if (hasEmptySet()) {
            return NOT;
        }
        long covers = Sets.coversOf(board.family, board.n);
        int least = Sets.leastSize(covers);
        return what == 0 ? least : Sets.pick(covers & SIZED[least], 0);
    }

    public int nu(int times) {
        if (times < 1 || times > 2) {
            return BAD;
        }
        if (hasEmptySet()) {
            return NOT;
        }
        return times == 1 ? Sets.mostApart(board.family) : Sets.mostTwice(board.family, board.n, most);
    }

    public int half() {
        return hasEmptySet() ? NOT : Sets.leastHalves(board.family, board.n);
    }

    public int lightest(int what) {
        if (what < 0 || what > 1) {
            return BAD;
        }
        long covers = Sets.coversOf(board.family, board.n);
        if (covers == 0) {
            return NOT;
        }
        int set = lightestOf(covers);
        return what == 0 ? set : weighing(set);
    }

    public int packs() {
        return Sets.isPacking(board.family) ? 1 : 0;
    }

    public int allPack(int what) {
        if (what < 0 || what > 1) {
            return BAD;
        }
        int first = Sets.firstUnpacked(board.family, board.n);
        if (what == 1) {
            return first;
        }
        return first == NOT ? 1 : 0;
    }

    public int bad(int what) {
        if (what < 0 || what > 1) {
            return BAD;
        }
        int first = Sets.firstBad(board.family, board.n);
        if (what == 1) {
            return first;
        }
        return first == NOT ? 0 : Sets.badSort(board.family, board.n, first / ALL_SETS, first % ALL_SETS);
    }

    public int packsDoubled(int point) {
        if (!isPoint(point)) {
            return BAD;
        }
        if (board.n == MOST_POINTS) {
            return FULL;
        }
        return Sets.isPacking(Sets.withTwin(board.family, point, board.n)) ? 1 : 0;
    }

    // ---- SHELVES

    public int keep(int shelf) {
        if (!isShelf(shelf)) {
            return BAD;
        }
        shelves[shelf].holdFamily(board.n, board.family);
        return Sets.size(board.family);
    }

    public int lay(int shelf) {
        int refusal = refusalOf(shelf, HOLDS_FAMILY);
        if (refusal != 0) {
            return refusal;
        }
        before.copy(board);
        board.resize(shelves[shelf].n);
        board.family = shelves[shelf].family;
        noteStep();
        return Sets.size(board.family);
    }

    public int join(int shelf, int how) {
        if (how < 0 || how > 1) {
            return BAD;
        }
        int refusal = refusalOf(shelf, HOLDS_FAMILY);
        if (refusal != 0) {
            return refusal;
        }
        if (shelves[shelf].n != board.n) {
            return STATE;
        }
        long other = shelves[shelf].family;
        return become(how == 0 ? Sets.inner(board.family | other) : Sets.product(board.family, other));
    }

    public int same(int shelf, int what) {
        if (what < 0 || what > 1) {
            return BAD;
        }
        int refusal = refusalOf(shelf, HOLDS_FAMILY);
        if (refusal != 0) {
            return refusal;
        }
        long wanted = what == 0 ? board.family : Sets.blockerOf(board.family, board.n);
        return shelves[shelf].n == board.n && shelves[shelf].family == wanted ? 1 : 0;
    }

    public int row(int shelf, int n) {
        if (!isShelf(shelf) || n > ROW_ROOM) {
            return BAD;
        }
        if (n < -1) {
            return ROW_BELOW;
        }
        if (n == -1) {
            shelves[shelf].holds = HOLDS_NOTHING;
        } else {
            shelves[shelf].holdZeros(n);
        }
        return 1;
    }

    public int put(int shelf, int i, int v) {
        int refusal = refusalOf(shelf, HOLDS_ROW);
        if (refusal != 0) {
            return refusal;
        }
        return shelves[shelf].line.change(i, v) ? 1 : ROW_OUTSIDE;
    }

    public int get(int shelf, int i) {
        return refusalOf(shelf, HOLDS_ROW) != 0 ? VOID : shelves[shelf].line.cell(i);
    }

    public int film(int shelf) {
        if (!isShelf(shelf)) {
            return BAD;
        }
        long blocker = Sets.blockerOf(board.family, board.n);
        shelves[shelf].holdSets(blocker);
        return Sets.size(blocker);
    }

    public int judge(int shelf) {
        int refusal = refusalOf(shelf, HOLDS_ROW);
        if (refusal != 0) {
            return refusal;
        }
        Row line = shelves[shelf].line;
        long untold = Sets.blockerOf(board.family, board.n);
        for (int i = 0; i < line.size; i++) {
            int set = line.cell(i);
            if (!isSet(set) || !Sets.has(untold, set)) {
                return i;
            }
            untold &= ~(1L << set);
        }
        return untold == 0 ? NOT : 100 + line.size;
    }

    // ---- STEPS, THE TAPE, texts

    public int back() {
        if (stepCount == 0) {
            return STATE;
        }
        stepCount--;
        board.copy(steps[stepCount]);
        return stepCount;
    }

    public int feed(int letter) {
        if (letter < 32 || letter > 126) {
            return BAD;
        }
        return tape.push(letter) ? tape.size : FULL;
    }

    public int wipe() {
        int had = tape.size;
        tape.size = 0;
        return had;
    }

    public int read() {
        int answer = reader.isText() ? runText() : -100 - reader.at;
        tape.size = 0;
        return answer;
    }

    public int say(int i) {
        if (i < -1) {
            return BAD;
        }
        writeOut();
        if (i == -1) {
            return written.size;
        }
        return i < written.size ? written.cell(i) : NOT;
    }

    // ---- KINDS

    public int act(int point, int act, int x) {
        if (!isPoint(point) || act < 0 || act > 2) {
            return 0;
        }
        ran.size = 0;
        Point one = pointAt(point);
        switch (act) {
            case 0: return one.asks(x);
            case 1: return one.says(x);
            default: return one.tells(x);
        }
    }

    public int trace(int i) {
        return ran.isPlace(i) ? ran.cell(i) : NOT;
    }

    public int taken(int point, int k) {
        if (!isPoint(point) || !isKind(k)) {
            return BAD;
        }
        Point one = pointAt(point);
        return isUnder(one, k) ? one.mass : STATE;
    }

    // ---- THE IMAGE, counts

    public int image() {
        kept.copy(board);
        hasImage = true;
        return Sets.size(board.family);
    }

    public int undo() {
        if (!hasImage) {
            return STATE;
        }
        board.copy(kept);
        stepCount = 0;
        return Sets.size(board.family);
    }

    public int count(int what) {
        long family = board.family;
        switch (what) {
            case 0: return board.n;
            case 1: return Sets.size(family);
            case 2: return Sets.union(family);
            case 3: return Sets.common(family, board.n);
            case 4: return family == 0 ? NOT : Sets.leastSize(family);
            case 5: return family == 0 ? NOT : Sets.greatestSize(family);
            case 6: return stepCount;
            case 7: return tape.size;
            case 8: return shelvesInUse();
            default: return BAD;
        }
    }

    // ---- what the calls have in common

    private boolean isPoint(int point) {
        return point >= 0 && point < board.n;
    }

    private boolean isSet(int set) {
        return set >= 0 && set < 1 << board.n;
    }

    private static boolean isKind(int k) {
        return k >= 0 && k < KINDS;
    }

    private static boolean isShelf(int shelf) {
        return shelf >= 0 && shelf < SHELVES;
    }

    private boolean hasEmptySet() {
        return Sets.has(board.family, 0);
    }

    /** Why a SHELF does not give what is wanted of it; 0, if it does. */
    private int refusalOf(int shelf, int wanted) {
        if (!isShelf(shelf)) {
            return BAD;
        }
        if (shelves[shelf].holds == HOLDS_NOTHING) {
            return SHELF_EMPTY;
        }
        return shelves[shelf].holds == wanted ? 0 : SHELF_OTHER;
    }

    private int shelvesInUse() {
        int used = 0;
        for (int i = 0; i < SHELVES; i++) {
            if (shelves[i].holds != HOLDS_NOTHING) {
                used++;
            }
        }
        return used;
    }

    /** THE FAMILY becomes another one: how many sets there are. */
    private int become(long family) {
        before.copy(board);
        board.family = family;
        noteStep();
        return Sets.size(family);
    }

    /** What was before is a STEP, if it is otherwise now; the eldest of too many makes room for it. */
    private void noteStep() {
        if (board.isLike(before)) {
            return;
        }
        if (stepCount == MOST_STEPS) {
            Board eldest = steps[0];
            for (int i = 1; i < MOST_STEPS; i++) {
                steps[i - 1] = steps[i];
            }
            steps[MOST_STEPS - 1] = eldest;
            stepCount--;
        }
        steps[stepCount].copy(before);
        stepCount++;
    }

    /** The one of its KIND, made to stand for this POINT. */
    private Point pointAt(int point) {
        Point one = kinds[board.kindOf[point]];
        one.number = point;
        one.mass = board.weightOf[point];
        return one;
    }

    private static boolean isUnder(Point one, int k) {
        switch (k) {
            case 0: return true;
            case 1: return one instanceof Hard;
            case 2: return one instanceof Soft;
            case 3: return one instanceof Twin;
            default: return one instanceof Core;
        }
    }

    private int weighing(int set) {
        int sum = 0;
        for (int p = 0; p < board.n; p++) {
            if ((set >> p & 1) != 0) {
                sum += pointAt(p).weighs();
            }
        }
        return sum;
    }

    private int lightestOf(long covers) {
        int lightest = -1;
        int least = 0;
        for (int s = 0; s < ALL_SETS; s++) {
            if (Sets.has(covers, s)) {
                int sum = weighing(s);
                if (lightest < 0 || sum < least) {
                    lightest = s;
                    least = sum;
                }
            }
        }
        return lightest;
    }

    private void writeOut() {
        written.size = 0;
        for (int s = 0; s < ALL_SETS; s++) {
            if (Sets.has(board.family, s)) {
                if (written.size > 0) {
                    written.push(',');
                }
                writeSet(s);
            }
        }
        if (written.size == 0) {
            written.push('.');
        }
    }

    private void writeSet(int set) {
        if (set == 0) {
            written.push('-');
        }
        for (int p = 0; p < MOST_POINTS; p++) {
            if ((set >> p & 1) != 0) {
                written.push('0' + p);
            }
        }
    }

    /** Does the ACTS of a TEXT that has no FAULT. */
    private int runText() {
        reader.at = 0;
        for (int done = 0; done < TAPE_ROOM; done++) {
            if (!reader.readAct() || runAct() < 0) {
                return -200 - done;
            }
            if (!reader.readByte(';')) {
                return done + 1;
            }
        }
        return TAPE_ROOM;
    }

    private int runAct() {
        switch (reader.word) {
            case ADD: return add(reader.first);
            case TAKE: return take(reader.first);
            case DROP: return drop(reader.first, reader.second);
            case DOUBLE: return doubled(reader.first);
            case WEIGH: return weight(reader.first, reader.second);
            case KIND: return kind(reader.first, reader.second);
            case POINTS: return points(reader.first);
            default: return turn();
        }
    }

    /** Families as longs: what is asked of them, without any state. */
    private static final class Sets {
        static boolean has(long family, int set) {
            return (family >>> set & 1) != 0;
        }

        static int size(long family) {
            return Long.bitCount(family);
        }

        /** The i-th set, as set() tells it. */
        static int pick(long family, int i) {
            if (i < -1) {
                return BAD;
            }
            if (i == -1) {
                return size(family);
            }
            int ahead = i;
            for (int s = 0; s < ALL_SETS; s++) {
                if (has(family, s)) {
                    if (ahead == 0) {
                        return s;
                    }
                    ahead--;
                }
            }
            return NOT;
        }

        static int union(long family) {
            int points = 0;
            for (int p = 0; p < MOST_POINTS; p++) {
                if ((family & WITH[p]) != 0) {
                    points |= 1 << p;
                }
            }
            return points;
        }

        static int common(long family, int n) {
            int points = 0;
            for (int p = 0; p < n; p++) {
                if ((family & ~WITH[p]) == 0) {
                    points |= 1 << p;
                }
            }
            return points;
        }

        static int leastSize(long family) {
            for (int k = 0; k < MOST_POINTS; k++) {
                if ((family & SIZED[k]) != 0) {
                    return k;
                }
            }
            return MOST_POINTS;
        }

        static int greatestSize(long family) {
            for (int k = MOST_POINTS; k > 0; k--) {
                if ((family & SIZED[k]) != 0) {
                    return k;
                }
            }
            return 0;
        }

        /** All sets that have one of the family within them (of all six points there may be). */
        static long above(long family) {
            long sets = family;
            for (int p = 0; p < MOST_POINTS; p++) {
                sets |= (sets & ~WITH[p]) << (1 << p);
            }
            return sets;
        }

        /** The sets that have none of the others within them. */
        static long inner(long family) {
            long sets = above(family);
            long outer = 0;
            for (int p = 0; p < MOST_POINTS; p++) {
                outer |= (sets & ~WITH[p]) << (1 << p);
            }
            return family & ~outer;
        }

        /** For each set of the family all points that are not in it. */
        static long mirrored(long family) {
            long sets = family;
            for (int p = 0; p < MOST_POINTS; p++) {
                int step = 1 << p;
                sets = ((sets & WITH[p]) >>> step) | ((sets & ~WITH[p]) << step);
            }
            return sets;
        }

        /** A set is a COVER, if none of the family is within what it leaves. */
        static long coversOf(long family, int n) {
            return mirrored(~above(family)) & WITHIN[n];
        }

        static long blockerOf(long family, int n) {
            return inner(coversOf(family, n));
        }

        /** The sets without any of these points. */
        static long without(long family, int points) {
            long sets = family;
            for (int p = 0; p < MOST_POINTS; p++) {
                if ((points >> p & 1) != 0) {
                    sets &= ~WITH[p];
                }
            }
            return sets;
        }

        static long minorOf(long family, int d, int c) {
            long sets = without(family, d);
            for (int p = 0; p < MOST_POINTS; p++) {
                if ((c >> p & 1) != 0) {
                    sets = (sets & ~WITH[p]) | ((sets & WITH[p]) >>> (1 << p));
                }
            }
            return inner(sets);
        }

        /** The points behind one that is in no set get numbers less by 1. */
        static long closeGap(long family, int point) {
            int low = (1 << point) - 1;
            long sets = 0;
            for (int s = 0; s < ALL_SETS; s++) {
                if (has(family, s)) {
                    sets |= 1L << ((s & low) | (s >> 1 & ~low));
                }
            }
            return sets;
        }

        /** Each set with the point comes with the new point n (0 .. 5) in its place besides. */
        static long withTwin(long family, int point, int n) {
            long moved = (family & WITH[point]) >>> (1 << point) << (1 << n);
            return family | moved;
        }

        static long product(long family, long other) {
            long sets = 0;
            for (int s = 0; s < ALL_SETS; s++) {
                if (has(other, s)) {
                    sets |= joined(family, s);
                }
            }
            return inner(sets);
        }

        /** All sets of the family, each together with these points. */
        static long joined(long family, int points) {
            long sets = family;
            for (int p = 0; p < MOST_POINTS; p++) {
                if ((points >> p & 1) != 0) {
                    sets = (sets & WITH[p]) | ((sets & ~WITH[p]) << (1 << p));
                }
            }
            return sets;
        }

        /** NU: unions of one, two, .. sets apart, until there are none (the empty set is not in it). */
        static int mostApart(long family) {
            long unions = 1;
            for (int k = 0; k < MOST_POINTS; k++) {
                long next = 0;
                for (int s = 1; s < ALL_SETS && family >>> s != 0; s++) {
                    if (has(family, s)) {
                        next |= without(unions, s) << s;
                    }
                }
                if (next == 0) {
                    return k;
                }
                unions = next;
            }
            return MOST_POINTS;
        }

        /**
         * DOUBLE NU; what is left of each point (0 .. 2) is a figure of a number to the base 3. From all
         * that is left at first one goes down, so that what no sets lead to costs nothing.
         */
        static int mostTwice(long family, int n, int[] most) {
            int states = POWERS_OF_3[n];
            for (int left = 0; left < states; left++) {
                most[left] = -1;
            }
            most[states - 1] = 0;
            int best = 0;
            for (int left = states - 1; left >= 0; left--) {
                if (most[left] >= 0) {
                    best = Math.max(best, most[left]);
                    takeOneMore(without(family, usedUp(left)), left, most);
                }
            }
            return best;
        }

        static void takeOneMore(long fitting, int left, int[] most) {
            for (int s = 1; s < ALL_SETS && fitting >>> s != 0; s++) {
                int rest = left - IN_BASE_3[s];
                if (has(fitting, s) && rest >= 0) {
                    most[rest] = Math.max(most[rest], most[left] + 1);
                }
            }
        }

        /** The points of which nothing is left. */
        static int usedUp(int left) {
            int points = 0;
            for (int p = 0; p < MOST_POINTS; p++) {
                if (left / POWERS_OF_3[p] % 3 == 0) {
                    points |= 1 << p;
                }
            }
            return points;
        }

        /** HALF: points that have 2 and points that have 1 are tried, all in all. */
        static int leastHalves(long family, int n) {
            int all = (1 << n) - 1;
            int best = 2 * n;
            for (int twos = 0; twos <= all; twos++) {
                long open = without(family, twos);
                for (int ones = 0; ones <= all; ones++) {
                    int sum = (ones & twos) == 0 ? 2 * Integer.bitCount(twos) + Integer.bitCount(ones) : best;
                    if (sum < best && eachHasTwo(open, ones)) {
                        best = sum;
                    }
                }
            }
            return best;
        }

        static boolean eachHasTwo(long family, int points) {
            for (int s = 0; s < ALL_SETS && family >>> s != 0; s++) {
                if (has(family, s) && Integer.bitCount(s & points) < 2) {
                    return false;
                }
            }
            return true;
        }

        static boolean isPacking(long family) {
            if (has(family, 0)) {
                return true;
            }
            int least = leastSize(coversOf(family, MOST_POINTS));
            // with a cover of one point there is a set, and NU is never more than TAU
            return least <= 1 || mostApart(family) == least;
        }

        /** 64 times D, and C, of the first MINOR that does not pack; NOT: all do. */
        static int firstUnpacked(long family, int n) {
            int all = (1 << n) - 1;
            for (int d = 0; d <= all; d++) {
                for (int c = 0; c <= all; c++) {
                    // all families of fewer than three points pack
                    boolean open = (d & c) == 0 && n - Integer.bitCount(d | c) >= 3;
                    if (open && !isPacking(minorOf(family, d, c))) {
                        return ALL_SETS * d + c;
                    }
                }
            }
            return NOT;
        }

        /** 64 times D, and C, of the first BAD one; NOT: there is none. */
        static int firstBad(long family, int n) {
            int all = (1 << n) - 1;
            for (int d = 0; d <= all; d++) {
                for (int c = 0; c <= all; c++) {
                    if ((d & c) == 0 && badSort(family, n, d, c) != 0) {
                        return ALL_SETS * d + c;
                    }
                }
            }
            return NOT;
        }

        /** 1 FAN, 2 RING, 3 WHEEL; 0: the MINOR is none of them. */
        static int badSort(long family, int n, int d, int c) {
            int points = ((1 << n) - 1) & ~(d | c);
            int k = Integer.bitCount(points);
            if (k < 3) {
                return 0;
            }
            long sets = minorOf(family, d, c);
            if (isFan(sets, points)) {
                return 1;
            }
            if (k != 5) {
                return 0;
            }
            if (isRing(sets, points)) {
                return 2;
            }
            return isRing(blockerOf(sets, n), points) ? 3 : 0;
        }

        static boolean isFan(long family, int points) {
            for (int c = 0; c < MOST_POINTS; c++) {
                if ((points >> c & 1) != 0 && family == fanAround(points, c)) {
                    return true;
                }
            }
            return false;
        }

        static long fanAround(int points, int c) {
            int others = points & ~(1 << c);
            long sets = 1L << others;
            for (int p = 0; p < MOST_POINTS; p++) {
                if ((others >> p & 1) != 0) {
                    sets |= 1L << (1 << c | 1 << p);
                }
            }
            return sets;
        }

        /** Of five points: pairs, two of them at each point, can but go round all five. */
        static boolean isRing(long family, int points) {
            if ((family & ~SIZED[2]) != 0) {
                return false;
            }
            for (int p = 0; p < MOST_POINTS; p++) {
                int wanted = (points >> p & 1) != 0 ? 2 : 0;
                if (size(family & WITH[p]) != wanted) {
                    return false;
                }
            }
            return true;
        }
    }

    /** POINTS with all that is theirs, and THE FAMILY. */
    private static final class Board {
        int n = FIRST_POINTS;
        long family = 0;
        /** Behind the n-th all stand as at first, so that POINTS that come later do. */
        final int[] kindOf = {0, 0, 0, 0, 0, 0};
        final int[] weightOf = {1, 1, 1, 1, 1, 1};

        void start(int points) {
            n = points;
            family = 0;
            clearBehind(0);
        }

        void resize(int points) {
            n = points;
            clearBehind(points);
        }

        private void clearBehind(int points) {
            for (int p = points; p < MOST_POINTS; p++) {
                kindOf[p] = 0;
                weightOf[p] = 1;
            }
        }

        void removePoint(int point) {
            for (int p = point; p + 1 < n; p++) {
                kindOf[p] = kindOf[p + 1];
                weightOf[p] = weightOf[p + 1];
            }
            resize(n - 1);
        }

        void appendLike(int point) {
            kindOf[n] = kindOf[point];
            weightOf[n] = weightOf[point];
            n++;
        }

        void copy(Board other) {
            n = other.n;
            family = other.family;
            for (int p = 0; p < MOST_POINTS; p++) {
                kindOf[p] = other.kindOf[p];
                weightOf[p] = other.weightOf[p];
            }
        }

        boolean isLike(Board other) {
            if (n != other.n || family != other.family) {
                return false;
            }
            for (int p = 0; p < n; p++) {
                if (kindOf[p] != other.kindOf[p] || weightOf[p] != other.weightOf[p]) {
                    return false;
                }
            }
            return true;
        }
    }

    /** Ints one behind the other, as many as there is room for. */
    private static final class Row {
        final int[] cells;
        int size = 0;

        Row(int room) {
            cells = new int[Math.max(room, 0)];
        }

        boolean isPlace(int i) {
            return i >= 0 && i < size;
        }

        /** VOID: there is no such place. */
        int cell(int i) {
            return isPlace(i) ? cells[i] : VOID;
        }

        boolean change(int i, int v) {
            if (!isPlace(i)) {
                return false;
            }
            cells[i] = v;
            return true;
        }

        boolean push(int v) {
            if (size >= cells.length) {
                return false;
            }
            cells[size] = v;
            size++;
            return true;
        }
    }

    /** Holds nothing, a FAMILY with its n, or a ROW. */
    private static final class Shelf {
        int holds = HOLDS_NOTHING;
        int n = 0;
        long family = 0;
        final Row line = new Row(ROW_ROOM);

        void holdFamily(int points, long sets) {
            holds = HOLDS_FAMILY;
            n = points;
            family = sets;
        }

        void holdZeros(int size) {
            holds = HOLDS_ROW;
            line.size = 0;
            for (int i = 0; i < size; i++) {
                line.push(0);
            }
        }

        void holdSets(long sets) {
            holds = HOLDS_ROW;
            line.size = 0;
            for (int s = 0; s < ALL_SETS; s++) {
                if (Sets.has(sets, s)) {
                    line.push(s);
                }
            }
        }
    }

    /** Reads THE TAPE; where it can't go on, it stays: at is the FAULT. */
    private static final class Reader {
        private final Row tape;
        private int figure = 0;
        int at = 0;
        int word = 0;
        int first = 0;
        int second = 0;

        Reader(Row tape) {
            this.tape = tape;
        }

        boolean isText() {
            at = 0;
            for (int acts = 0; acts < TAPE_ROOM; acts++) {
                if (!readAct()) {
                    return false;
                }
                if (at == tape.size) {
                    return true;
                }
                if (!readByte(';')) {
                    return false;
                }
            }
            return false;
        }

        boolean readAct() {
            first = 0;
            second = 0;
            if (!readWord()) {
                return false;
            }
            switch (word) {
                case ADD: case TAKE:
                    return readByte(' ') && readSet();
                case DOUBLE: case POINTS:
                    return readFirst();
                case TURN:
                    return true;
                default:
                    return readFirst() && readSecond();
            }
        }

        boolean readByte(int letter) {
            if (tape.cell(at) != letter) {
                return false;
            }
            at++;
            return true;
        }

        private boolean readFirst() {
            boolean stands = readByte(' ') && readFigure('9');
            first = figure;
            return stands;
        }

        private boolean readSecond() {
            boolean stands = readByte(' ') && readFigure('9');
            second = figure;
            return stands;
        }

        private boolean readFigure(int greatest) {
            int letter = tape.cell(at);
            if (letter < '0' || letter > greatest) {
                return false;
            }
            figure = letter - '0';
            at++;
            return true;
        }

        /** A figure that does not rise is left where it stands: there no text goes on. */
        private boolean readSet() {
            if (readByte('-')) {
                return true;
            }
            if (!readFigure('7')) {
                return false;
            }
            first = 1 << figure;
            for (int p = figure + 1; p < 8; p++) {
                if (readByte('0' + p)) {
                    first |= 1 << p;
                }
            }
            return true;
        }

        /** A word that is none of the eight is a FAULT where it begins. */
        private boolean readWord() {
            int end = at;
            for (int i = at; i < tape.size && isLetter(tape.cell(i)); i++) {
                end = i + 1;
            }
            for (int w = 0; w < WORDS; w++) {
                if (isWord(at, end, wordText(w))) {
                    word = w;
                    at = end;
                    return true;
                }
            }
            return false;
        }

        private static boolean isLetter(int letter) {
            return letter >= 'a' && letter <= 'z';
        }

        private boolean isWord(int from, int end, String text) {
            if (end - from != text.length()) {
                return false;
            }
            for (int i = from; i < end; i++) {
                if (tape.cell(i) != text.charAt(i - from)) {
                    return false;
                }
            }
            return true;
        }

        private static String wordText(int w) {
            switch (w) {
                case ADD: return "add";
                case TAKE: return "take";
                case DROP: return "drop";
                case DOUBLE: return "double";
                case WEIGH: return "weigh";
                case KIND: return "kind";
                case POINTS: return "points";
                default: return "turn";
            }
        }
    }

    /** What all KINDS do; each body tells its number to THE TRACE as it begins. */
    private interface Weighed {
        Row bodies();

        default int tells(int x) {
            bodies().push(1);
            return x + 5;
        }
    }

    private static class Point implements Weighed {
        final Row ran;
        int number = 0;
        int mass = 0;

        Point(Row ran) {
            this.ran = ran;
        }

        public Row bodies() {
            return ran;
        }

        int weighs() {
            return 2 * mass + 1;
        }

        int asks(int x) {
            ran.push(10);
            return x + number;
        }

        int says(int x) {
            ran.push(11);
            return asks(x) - tells(2);
        }
    }

    private static class Hard extends Point {
        Hard(Row ran) {
            super(ran);
        }

        int asks(int x) {
            ran.push(20);
            return super.asks(x) * 2;
        }
    }

    private static class Soft extends Hard {
        Soft(Row ran) {
            super(ran);
        }

        int weighs() {
            return 3 * super.weighs() - 2;
        }

        public int tells(int x) {
            ran.push(30);
            return super.tells(x) ^ 3;
        }

        int says(int x) {
            ran.push(31);
            return -super.says(x);
        }
    }

    private static final class Twin extends Point {
        Twin(Row ran) {
            super(ran);
        }

        int weighs() {
            return super.weighs() / 2;
        }

        int asks(int x) {
            ran.push(40);
            return super.asks(x + 1);
        }
    }

    private static final class Core extends Soft {
        Core(Row ran) {
            super(ran);
        }

        int weighs() {
            return super.weighs() + 1;
        }

        public int tells(int x) {
            ran.push(50);
            return super.tells(x) * mass;
        }
    }
}
