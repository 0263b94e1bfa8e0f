/** STEPS, THE IMAGE, what points(), back(), undo() leave, ACTS of a POINT, THE TRACE, counts. */
public final class StateTests extends Rows {
    private static final int POINT = 0, HARD = 1, SOFT = 2, TWIN = 3, CORE = 4;
    private static final int ASKS = 0, SAYS = 1, TELLS = 2;

    public static void main(String[] args) {
        newDesk();
        stepsTakenBack();
        tenSteps();
        noSteps();
        whatIsAStep();
        backLeaves();
        pointsMakesAllAsAtFirst();
        image();
        undoLeaves();
        acts();
        wraps();
        trace();
        counts();
        longestUse();
        end("state");
    }

    private static void newDesk() {
        begin("BlockerDesk(): four POINTS, no sets; nothing on SHELVES, THE TAPE; no STEP, no IMAGE, no TRACE");
        BlockerDesk x = new BlockerDesk();
        int[] counts = {4, 0, 0, 15, NOT, NOT, 0, 0, 0};
        for (int what = 0; what < 9; what++) {
            due(x.count(what), counts[what]);
        }
        due(x.back(), STATE);
        due(x.undo(), STATE);
        due(x.read(), -100);
        for (int i = 0; i < 25; i++) {
            due(x.trace(i), NOT);
        }
        begin("desks have nothing in common");
        BlockerDesk y = new BlockerDesk();
        x.points(6);
        x.add(1);
        x.kind(0, CORE);
        x.weight(0, 7);
        x.keep(0);
        x.feed(65);
        x.image();
        x.act(0, SAYS, 1);
        dueAll(allOf(y), allOf(new BlockerDesk()));
    }

    private static void stepsTakenBack() {
        begin("STEPS: what each of the nine calls made otherwise can be taken BACK");
        Call[] changes = {x -> x.add(6), x -> x.take(12), x -> x.drop(0, 0), x -> x.drop(3, 1), x -> x.doubled(1),
            x -> x.turn(), x -> x.weight(2, 0), x -> x.kind(1, TWIN), x -> x.lay(0), x -> x.lay(1), x -> x.join(2, 0),
            x -> x.join(2, 1)};
        for (Call change : changes) {
            BlockerDesk x = stepDesk();
            BlockerDesk y = stepDesk();
            change.on(x);
            due(x.count(6), 4);
            due(board(x).equals(board(y)) ? 1 : 0, 0);
            due(x.back(), 3);
            dueAll(allOf(x), allOf(y));
        }
        begin("BACK, the latest first");
        BlockerDesk x = stepDesk();
        for (Call change : changes) {
            BlockerDesk y = stepDesk();
            y.take(3);
            change.on(y);
            y.back();
            due(y.back(), 3);
            dueAll(board(y), board(x));
        }
    }

    private static BlockerDesk stepDesk() {
        BlockerDesk x = desk(3, 5, 6);
        x.keep(1);
        x.points(4);
        x.add(9);
        x.keep(2);
        x.points(4);
        x.add(7);
        x.keep(0);
        x.points(4);
        x.kind(2, CORE);
        addAll(x, 3, 12);
        return x;
    }

    private static void tenSteps() {
        begin("10 at most (then the eldest is none any more)");
        BlockerDesk x = desk(1);
        for (int i = 1; i <= 25; i++) {
            x.weight(0, (i + 1) % 10);
            due(x.count(6), Math.min(i, 10));
        }
        for (int i = 24; i >= 15; i--) {
            due(x.back(), i - 15);
            due(x.of(0, 1), (i + 1) % 10);
        }
        due(x.back(), STATE);
        due(x.of(0, 1), 6);
        begin("a STEP behind one that was taken BACK takes its place");
        x.weight(0, 2);
        x.weight(0, 3);
        due(x.back(), 1);
        x.weight(0, 8);
        due(x.count(6), 2);
        due(x.back(), 1);
        due(x.of(0, 1), 2);
        due(x.back(), 0);
        due(x.of(0, 1), 6);
    }

    private static void noSteps() {
        begin("A call that answers 0 or what was, as nothing is otherwise, is no STEP");
        BlockerDesk x = desk(3, 3, 5, 6);
        x.keep(0);
        x.points(3);
        x.keep(1);
        x.add(0);
        x.keep(2);
        x.points(3);
        addAll(x, 3, 5, 6);
        due(x.add(7), 0);
        due(x.add(3), 0);
        due(x.weight(0, 1), 1);
        due(x.kind(0, 0), 0);
        due(x.turn(), 3);
        due(x.lay(0), 3);
        due(x.join(0, 0), 3);
        due(x.join(1, 0), 3);
        due(x.join(2, 1), 3);
        due(x.count(6), 3);
        setsAre(x, 3, 5, 6);
        x.points(3);
        due(x.lay(1), 0);
        due(x.join(1, 0), 0);
        due(x.join(0, 1), 0);
        due(x.join(1, 1), 0);
        due(x.count(6), 0);
        due(x.back(), STATE);
        begin("refused calls are no STEPS");
        due(x.take(3), NOT);
        due(x.drop(3, 0), BAD);
        due(x.lay(3), -11);
        due(x.count(6), 0);
    }

    private static void whatIsAStep() {
        begin("a call that answers 0 and makes something otherwise is a STEP");
        BlockerDesk x = desk(3, 3);
        due(x.take(3), 0);
        due(x.count(6), 2);
        due(x.drop(0, 0), 0);
        due(x.count(6), 3);
        due(x.doubled(0), 0);
        due(x.count(6), 4);
        due(x.kind(0, HARD), 0);
        due(x.count(6), 5);
        due(x.weight(1, 0), 1);
        due(x.weight(1, 4), 0);
        due(x.count(6), 7);
        begin("lay() of the same sets with another n is a STEP");
        BlockerDesk y = desk(5, 3);
        y.keep(0);
        y.points(4);
        y.add(3);
        due(y.lay(0), 1);
        due(y.count(6), 2);
        due(y.count(0), 5);
        due(y.back(), 1);
        due(y.count(0), 4);
        begin("doubled() of one in no set is a STEP, turn() of no sets is one");
        BlockerDesk z = desk(2);
        due(z.doubled(1), 0);
        due(z.turn(), 1);
        due(z.turn(), 0);
        due(z.count(6), 3);
    }

    private static void backLeaves() {
        begin("back() brings POINTS, KINDS, WEIGHTS, THE FAMILY of then, and leaves all else");
        BlockerDesk x = desk(5, 3, 24);
        x.kind(4, TWIN);
        x.weight(4, 6);
        due(x.drop(4, 1), 2);
        x.keep(0);
        x.row(1, 2);
        x.image();
        x.act(0, TELLS, 1);
        feedText(x, "turn");
        due(x.back(), 4);
        due(x.count(0), 5);
        due(x.of(4, 0), TWIN);
        due(x.of(4, 1), 6);
        setsAre(x, 3, 24);
        due(x.count(7), 4);
        due(x.count(8), 2);
        traceIs(x, 1);
        due(x.lay(0), 2);
        due(x.count(0), 4);
        due(x.undo(), 2);
        due(x.count(0), 4);
    }

    private static void pointsMakesAllAsAtFirst() {
        begin("points() makes all as at first but SHELVES, THE TAPE, THE IMAGE, THE TRACE");
        BlockerDesk x = desk(4, 3, 12);
        x.kind(3, CORE);
        x.weight(3, 0);
        x.keep(0);
        x.row(1, 1);
        x.put(1, 0, 99);
        x.image();
        x.act(3, TELLS, 1);
        feedText(x, "turn");
        due(x.points(4), 4);
        setsAre(x);
        kindsAre(x, 0, 0, 0, 0);
        weightsAre(x, 1, 1, 1, 1);
        due(x.count(6), 0);
        due(x.back(), STATE);
        due(x.count(7), 4);
        due(x.count(8), 2);
        due(x.get(1, 0), 99);
        traceIs(x, 50, 30, 1);
        due(x.read(), 1);
        setsAre(x, 0);
        due(x.undo(), 2);
        kindsAre(x, 0, 0, 0, CORE);
        due(x.points(1), 4);
        due(x.lay(0), 2);
        kindsAre(x, 0, 0, 0, 0);
        begin("points(): how many POINTS there were, each n to each");
        BlockerDesk y = new BlockerDesk();
        int was = 4;
        for (int n : new int[] {1, 1, 6, 6, 1, 2, 3, 4, 5, 6, 5, 4, 3, 2, 1}) {
            due(y.points(n), was);
            was = n;
        }
    }

    private static void image() {
        begin("THE IMAGE: POINTS with all that is theirs, THE FAMILY");
        BlockerDesk x = desk(6, SINGLES);
        for (int p = 0; p < 6; p++) {
            x.kind(p, p % 5);
            x.weight(p, 9 - p);
        }
        due(x.image(), 6);
        due(x.count(6), 10);
        x.points(1);
        due(x.undo(), 6);
        kindsAre(x, 0, 1, 2, 3, 4, 0);
        weightsAre(x, 9, 8, 7, 6, 5, 4);
        setsAre(x, SINGLES);
        begin("the latest IMAGE is the one, and stays after undo()");
        x.drop(5, 0);
        due(x.image(), 5);
        x.add(0);
        due(x.undo(), 5);
        x.turn();
        due(x.undo(), 5);
        due(x.undo(), 5);
        due(x.count(0), 5);
        begin("an IMAGE of no sets, of the empty set");
        x.points(2);
        due(x.image(), 0);
        x.add(0);
        due(x.undo(), 0);
        setsAre(x);
        x.add(0);
        due(x.image(), 1);
        x.take(0);
        due(x.undo(), 1);
        setsAre(x, 0);
    }

    private static void undoLeaves() {
        begin("undo() leaves SHELVES and THE TAPE, and no STEPS");
        BlockerDesk x = desk(3, 3);
        x.image();
        x.add(4);
        x.keep(2);
        x.row(0, 1);
        x.put(0, 0, 7);
        feedText(x, "add 2");
        x.act(2, ASKS, 0);
        due(x.count(6), 2);
        due(x.undo(), 1);
        due(x.count(6), 0);
        due(x.back(), STATE);
        setsAre(x, 3);
        due(x.get(0, 0), 7);
        due(x.count(8), 2);
        due(x.count(7), 5);
        traceIs(x, 10);
        due(x.read(), 1);
        setsAre(x, 3, 4);
        due(x.count(6), 1);
        due(x.undo(), 1);
        due(x.lay(2), 2);
        begin("undo() is no STEP and leaves none, also if nothing is otherwise");
        BlockerDesk y = desk(3, 3);
        y.image();
        due(y.undo(), 1);
        due(y.count(6), 0);
    }

    private static void acts() {
        begin("ACTS: i its number, m its WEIGHT");
        BlockerDesk x = desk(6);
        for (int p = 0; p < 6; p++) {
            for (int k = 0; k < 5; k++) {
                for (int w : new int[] {0, 1, 9}) {
                    x.kind(p, k);
                    x.weight(p, w);
                    int asks = k == POINT ? 7 + p : k == TWIN ? 8 + p : 2 * (7 + p);
                    int tells = k == SOFT ? 12 ^ 3 : k == CORE ? (12 ^ 3) * w : 12;
                    int two = k == SOFT ? 7 ^ 3 : k == CORE ? (7 ^ 3) * w : 7;
                    due(x.act(p, ASKS, 7), asks);
                    due(x.act(p, TELLS, 7), tells);
                    due(x.act(p, SAYS, 7), k == SOFT || k == CORE ? two - asks : asks - two);
                }
            }
        }
        begin("ACTS of negative x, of 0");
        BlockerDesk y = desk(2);
        due(y.act(1, ASKS, -1), 0);
        due(y.act(1, SAYS, 0), -6);
        due(y.act(0, TELLS, -5), 0);
        y.kind(1, SOFT);
        due(y.act(1, TELLS, -6), -1 ^ 3);
        due(y.act(1, ASKS, -3), -4);
        y.kind(1, CORE);
        y.weight(1, 0);
        due(y.act(1, TELLS, -99), 0);
        begin("a POINT's number is the one that it has now");
        BlockerDesk z = desk(4);
        z.kind(3, TWIN);
        due(z.act(3, ASKS, 0), 4);
        z.drop(0, 0);
        due(z.act(2, ASKS, 0), 3);
    }

    private static void wraps() {
        begin("x (an int that wraps)");
        BlockerDesk x = desk(4);
        x.weight(3, 3);
        due(x.act(3, ASKS, GREATEST), LEAST + 2);
        due(x.act(0, ASKS, GREATEST), GREATEST);
        due(x.act(3, TELLS, GREATEST), LEAST + 4);
        due(x.act(0, SAYS, LEAST), GREATEST - 6);
        due(x.act(0, SAYS, LEAST + 7), LEAST);
        x.kind(3, HARD);
        due(x.act(3, ASKS, GREATEST), 4);
        due(x.act(3, ASKS, (1 << 30) - 3), LEAST);
        x.kind(3, TWIN);
        due(x.act(3, ASKS, GREATEST), LEAST + 3);
        x.kind(3, SOFT);
        due(x.act(3, TELLS, GREATEST), LEAST + 7);
        due(x.act(3, TELLS, LEAST), LEAST + 6);
        x.kind(3, CORE);
        due(x.act(3, TELLS, GREATEST), LEAST + 21);
        x.weight(3, 2);
        due(x.act(3, TELLS, GREATEST), 14);
        // the least int has no other one: less it is itself
        x.kind(0, SOFT);
        due(x.act(0, SAYS, (1 << 30) + 2), LEAST);
    }

    private static void trace() {
        begin("THE TRACE: numbers of the bodies that ran in the latest act() that was not BAD, as they began");
        BlockerDesk x = desk(3);
        x.kind(1, CORE);
        x.act(1, SAYS, 1);
        traceIs(x, 31, 11, 20, 10, 50, 30, 1);
        due(x.trace(6), 1);
        due(x.trace(7), NOT);
        due(x.trace(23), NOT);
        due(x.trace(24), NOT);
        due(x.act(3, ASKS, 1), 0);
        due(x.act(1, 3, 1), 0);
        due(x.act(1, -1, 1), 0);
        traceIs(x, 31, 11, 20, 10, 50, 30, 1);
        begin("a shorter TRACE leaves nothing of the longer one");
        x.act(0, TELLS, 1);
        traceIs(x, 1);
        due(x.trace(-1), NOT);
        begin("what weighs, is taken for a KIND or is asked runs no body");
        due(x.of(1, 2), 8);
        due(x.taken(1, CORE), 1);
        due(x.lightest(1), 0);
        traceIs(x, 1);
        begin("THE TRACE is of then, when the KIND changes or the POINT goes");
        x.act(1, ASKS, 1);
        x.kind(1, TWIN);
        x.drop(1, 0);
        traceIs(x, 20, 10);
    }

    private static void counts() {
        begin("count: 2 POINTS in some set, 3 POINTS in all sets (all, if there are none)");
        for (int n = 1; n <= 6; n++) {
            int all = (1 << n) - 1;
            due(desk(n).count(2), 0);
            due(desk(n).count(3), all);
            due(desk(n, 0).count(2), 0);
            due(desk(n, 0).count(3), 0);
            due(desk(n, all).count(2), all);
            due(desk(n, all).count(3), all);
        }
        due(desk(6, 33, 35 + 4, 56).count(2), 57);
        due(desk(6, 33, 34, 60).count(3), 32);
        begin("count: 4 how many POINTS the least one has, 5 the greatest (by both NOT, if there are no sets)");
        for (int n = 1; n <= 6; n++) {
            due(desk(n).count(4), NOT);
            due(desk(n).count(5), NOT);
            due(desk(n, 0).count(4), 0);
            due(desk(n, 0).count(5), 0);
            due(desk(n, (1 << n) - 1).count(4), n);
            due(desk(n, (1 << n) - 1).count(5), n);
        }
        // the greatest number is not the set of the most POINTS, nor the least one of the fewest
        due(desk(6, 7, 32).count(4), 1);
        due(desk(6, 7, 32).count(5), 3);
        due(desk(6, 30, 1, 32).count(5), 4);
        begin("of: 3 in how many sets it is, 4 all POINTS that are in a set with it (itself not)");
        due(desk(6).of(5, 3), 0);
        due(desk(6).of(5, 4), 0);
        due(desk(6, 0).of(5, 3), 0);
        due(desk(6, 32).of(5, 3), 1);
        due(desk(6, 32).of(5, 4), 0);
        due(desk(6, 63).of(5, 4), 31);
        due(desk(6, 63).of(0, 4), 62);
        BlockerDesk x = desk(6);
        addSized(x, 3);
        due(x.of(0, 3), 10);
        due(x.of(5, 3), 10);
        due(x.of(2, 4), 59);
        begin("is: 2 has one of THE FAMILY within it");
        due(desk(3).is(7, 2), 0);
        due(desk(3, 0).is(0, 2), 1);
        due(desk(3, 3).is(3, 2), 1);
        due(desk(3, 3).is(7, 2), 1);
        due(desk(3, 3).is(1, 2), 0);
        due(desk(3, 3).is(6, 2), 0);
        due(desk(6, 63).is(63, 2), 1);
        due(desk(6, 63).is(62, 2), 0);
    }

    private static void longestUse() {
        begin("An object is used for at most 512 calls after it has been made");
        BlockerDesk x = new BlockerDesk();
        for (int call = 1; call <= 510; call++) {
            due(x.turn(), call % 2);
        }
        due(x.back(), 9);
        due(x.count(1), 1);
        BlockerDesk y = new BlockerDesk();
        for (int call = 1; call <= 512; call++) {
            due(y.feed(60), call <= 80 ? call : FULL);
        }
        BlockerDesk z = new BlockerDesk();
        for (int call = 1; call <= 512; call++) {
            due(z.act(3, SAYS, call), call - 4);
        }
    }
}
