/** All families of one to five POINTS, and such of six, asked of the program and of the naive desk. */
public final class FamilyTests extends Rows {
    private static int families = 0;

    public static void main(String[] args) {
        int[] howMany = {3, 6, 20, 168, 7581};
        for (int n = 1; n <= 5; n++) {
            families = 0;
            eachFamily(n, 0, new int[10], 0);
            begin("how many families of " + n + " POINTS there are");
            due(families, howMany[n - 1]);
        }
        eachSetOfSix();
        manyOfSix();
        end("families");
    }

    /** Goes on from the sets chosen so far (none within another) by those with greater numbers. */
    private static void eachFamily(int n, int from, int[] chosen, int size) {
        ask(n, java.util.Arrays.copyOf(chosen, size));
        for (int s = from; s < 1 << n; s++) {
            boolean apart = true;
            for (int i = 0; i < size; i++) {
                apart &= (chosen[i] & s) != chosen[i] && (chosen[i] & s) != s;
            }
            if (apart) {
                chosen[size] = s;
                eachFamily(n, s + 1, chosen, size + 1);
            }
        }
    }

    private static void ask(int n, int[] sets) {
        families++;
        begin(n + " POINTS, " + java.util.Arrays.toString(sets));
        BlockerDesk x = desk(n, sets);
        NaiveDesk y = naive(n, sets);
        cheapQuestions(x, y);
        if (n < 5 || families % 4 == 0) {
            dearQuestions(x, y);
        }
        if (n < 4) {
            allMinors(x, y, n);
        }
    }

    private static NaiveDesk naive(int n, int... sets) {
        NaiveDesk y = new NaiveDesk();
        y.points(n);
        for (int s : sets) {
            y.add(s);
        }
        return y;
    }

    private static void cheapQuestions(BlockerDesk x, NaiveDesk y) {
        for (int i = -1; i < 11; i++) {
            due(x.set(i), y.set(i));
            due(x.blocker(i), y.blocker(i));
        }
        for (int what = 0; what < 2; what++) {
            due(x.tau(what), y.tau(what));
            due(x.lightest(what), y.lightest(what));
            due(x.nu(what + 1), y.nu(what + 1));
        }
        for (int what = 2; what < 6; what++) {
            due(x.count(what), y.count(what));
        }
        due(x.half(), y.half());
        due(x.packs(), y.packs());
    }

    private static void dearQuestions(BlockerDesk x, NaiveDesk y) {
        for (int what = 0; what < 2; what++) {
            due(x.allPack(what), y.allPack(what));
            due(x.bad(what), y.bad(what));
        }
        for (int p = 0; p < x.count(0); p++) {
            due(x.packsDoubled(p), y.packsDoubled(p));
        }
    }

    private static void allMinors(BlockerDesk x, NaiveDesk y, int n) {
        for (int d = -1; d <= 1 << n; d++) {
            for (int c = -1; c <= 1 << n; c++) {
                for (int i = -2; i < 4; i++) {
                    due(x.minor(d, c, i), y.minor(d, c, i));
                }
            }
        }
        askSets(x, y, 1 << n);
    }

    private static void askSets(BlockerDesk x, NaiveDesk y, int all) {
        for (int s = -1; s <= all; s++) {
            for (int what = -1; what < 4; what++) {
                due(x.is(s, what), y.is(s, what));
            }
        }
    }

    private static void eachSetOfSix() {
        for (int s = 0; s < 64; s++) {
            begin("the set " + s + " of six POINTS alone, and each other POINT alone besides");
            BlockerDesk x = desk(6, s);
            NaiveDesk y = naive(6, s);
            cheapQuestions(x, y);
            for (int p = 0; p < 6; p++) {
                if ((s >> p & 1) == 0) {
                    x.add(1 << p);
                    y.add(1 << p);
                }
            }
            cheapQuestions(x, y);
            for (int t = 0; t < s; t++) {
                begin("the sets " + s + ", " + t + " of six POINTS");
                cheapQuestions(desk(6, s, t), naive(6, s, t));
            }
        }
    }

    /** Of six POINTS there are 7,828,354 families: some of them, with few sets and many, and their blockers. */
    private static void manyOfSix() {
        java.util.Random random = new java.util.Random(6);
        for (int k = 0; k < 700; k++) {
            BlockerDesk x = desk(6);
            NaiveDesk y = naive(6);
            int least = 1 + random.nextInt(3);
            int tries = 1 + random.nextInt(30);
            for (int i = 0; i < tries; i++) {
                int set = random.nextInt(64);
                int size = Integer.bitCount(set);
                if (size >= least && size <= least + 1) {
                    due(x.add(set), y.add(set));
                }
            }
            if (random.nextBoolean()) {
                due(x.turn(), y.turn());
            }
            begin("six POINTS, " + board(x).subList(7, board(x).size()));
            for (int i = 11; i < 21; i++) {
                due(x.set(i), y.set(i));
                due(x.blocker(i), y.blocker(i));
            }
            cheapQuestions(x, y);
            dearQuestions(x, y);
            askSets(x, y, 64);
            for (int i = 0; i < 100; i++) {
                int d = random.nextInt(64);
                int c = random.nextInt(64) & ~d;
                int at = random.nextInt(8) - 1;
                due(x.minor(d, c, at), y.minor(d, c, at));
            }
        }
    }
}
