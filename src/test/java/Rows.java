import java.util.ArrayList;
import java.util.List;

/** What the tests with rows worked out by hand have in common: each extends this class. */
abstract class Rows {
    static final int LEAST = Integer.MIN_VALUE, GREATEST = Integer.MAX_VALUE;
    static final int BAD = -1, NOT = -2, FULL = -3, STATE = -5;
    static final int[] RING = {3, 6, 12, 24, 17};
    static final int[] SINGLES = {1, 2, 4, 8, 16, 32};

    private static int wrong = 0;
    private static int row = 0;
    private static String sentence = "";

    /** A call on a desk, or several that bring it to a state. */
    interface Call {
        int on(BlockerDesk x);
    }

    /** The rows that follow are of this sentence of the document. */
    static void begin(String text) {
        sentence = text;
        row = 0;
    }

    static void due(int got, int want) {
        row++;
        if (got != want) {
            wrong++;
            System.out.println(sentence + " -- row " + row + ": answered " + got + ", due is " + want);
        }
    }

    static void dueAll(List<Integer> got, List<Integer> want) {
        row++;
        if (!got.equals(want)) {
            wrong++;
            System.out.println(sentence + " -- row " + row + ": is " + got + ", due is " + want);
        }
    }

    static void end(String name) {
        System.out.println(name + (wrong == 0 ? ": all answers are as due" : ": " + wrong + " wrong"));
        if (wrong != 0) {
            System.exit(1);
        }
    }

    static BlockerDesk desk(int n, int... sets) {
        BlockerDesk x = new BlockerDesk();
        x.points(n);
        addAll(x, sets);
        return x;
    }

    static void addAll(BlockerDesk x, int... sets) {
        for (int s : sets) {
            x.add(s);
        }
    }

    /** All sets of so many of the POINTS. */
    static void addSized(BlockerDesk x, int size) {
        for (int s = 0; s < 1 << x.count(0); s++) {
            if (Integer.bitCount(s) == size) {
                x.add(s);
            }
        }
    }

    static void feedText(BlockerDesk x, String text) {
        for (int i = 0; i < text.length(); i++) {
            x.feed(text.charAt(i));
        }
    }

    static int readText(BlockerDesk x, String text) {
        feedText(x, text);
        return x.read();
    }

    static void saidIs(BlockerDesk x, String text) {
        due(x.say(-1), text.length());
        for (int i = 0; i < text.length(); i++) {
            due(x.say(i), text.charAt(i));
        }
        due(x.say(text.length()), NOT);
    }

    static void setsAre(BlockerDesk x, int... sets) {
        due(x.set(-1), sets.length);
        for (int i = 0; i < sets.length; i++) {
            due(x.set(i), sets[i]);
        }
        due(x.set(sets.length), NOT);
    }

    static void blockerIs(BlockerDesk x, int... sets) {
        due(x.blocker(-1), sets.length);
        for (int i = 0; i < sets.length; i++) {
            due(x.blocker(i), sets[i]);
        }
        due(x.blocker(sets.length), NOT);
    }

    static void minorIs(BlockerDesk x, int d, int c, int... sets) {
        due(x.minor(d, c, -1), sets.length);
        for (int i = 0; i < sets.length; i++) {
            due(x.minor(d, c, i), sets[i]);
        }
        due(x.minor(d, c, sets.length), NOT);
    }

    static void rowIs(BlockerDesk x, int shelf, int... ints) {
        for (int i = 0; i < ints.length; i++) {
            due(x.get(shelf, i), ints[i]);
        }
        due(x.put(shelf, ints.length, 0), -13);
    }

    static void traceIs(BlockerDesk x, int... bodies) {
        for (int i = 0; i < bodies.length; i++) {
            due(x.trace(i), bodies[i]);
        }
        due(x.trace(bodies.length), NOT);
    }

    static void kindsAre(BlockerDesk x, int... kinds) {
        due(x.count(0), kinds.length);
        for (int p = 0; p < kinds.length; p++) {
            due(x.of(p, 0), kinds[p]);
        }
    }

    static void weightsAre(BlockerDesk x, int... weights) {
        due(x.count(0), weights.length);
        for (int p = 0; p < weights.length; p++) {
            due(x.of(p, 1), weights[p]);
        }
    }

    /** POINTS with all that is theirs, and THE FAMILY. */
    static List<Integer> board(BlockerDesk x) {
        List<Integer> all = new ArrayList<>();
        int n = x.count(0);
        all.add(n);
        for (int p = 0; p < n; p++) {
            all.add(10 * x.of(p, 0) + x.of(p, 1));
        }
        int sets = x.set(-1);
        for (int i = 0; i < sets; i++) {
            all.add(x.set(i));
        }
        return all;
    }

    /** All that can be seen of a desk, which is used up by it: STEPS, SHELVES, THE TAPE, THE IMAGE too. */
    static List<Integer> allOf(BlockerDesk x) {
        List<Integer> all = new ArrayList<>();
        for (int what = 6; what < 9; what++) {
            all.add(x.count(what));
        }
        for (int i = 0; i < 9; i++) {
            all.add(x.trace(i));
        }
        all.addAll(board(x));
        for (int left = x.back(); left >= 0; left = x.back()) {
            all.add(left);
            all.addAll(board(x));
        }
        for (int shelf = 0; shelf < 4; shelf++) {
            for (int i = 0; i < 4; i++) {
                all.add(x.get(shelf, i));
            }
            all.add(x.put(shelf, 39, 0));
            all.add(x.lay(shelf));
            all.addAll(board(x));
        }
        all.add(x.undo());
        all.addAll(board(x));
        all.add(x.read());
        all.addAll(board(x));
        return all;
    }
}
