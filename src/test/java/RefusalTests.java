/**
 * "ANSWERS that are refusals (nothing changes but where it is told), of several the first as the call's words
 * name them": for each promise what is refused, which refusal comes first, and that all stays as it was. And
 * "All that follows is asked, and changes nothing".
 */
public final class RefusalTests extends Rows {
    /** A desk with something of all that there is. */
    private static final Call BUSY = x -> {
        x.points(5);
        addAll(x, 3, 24, 4);
        x.keep(2);
        x.kind(4, 2);
        x.image();
        x.points(4);
        addAll(x, 3, 12);
        x.keep(0);
        x.row(1, 3);
        x.put(1, 0, 5);
        x.put(1, 1, 10);
        x.weight(2, 7);
        x.kind(1, 4);
        x.add(6);
        x.act(1, 1, 9);
        feedText(x, "add 0;turn");
        return 0;
    };
    /** Six POINTS, ten STEPS, eighty bytes, four SHELVES that hold something. */
    private static final Call CROWDED = x -> {
        x.points(6);
        addAll(x, 7, 56, 33, 18);
        for (int v = 2; v < 9; v++) {
            x.weight(5, v);
        }
        for (int shelf = 0; shelf < 4; shelf++) {
            x.keep(shelf);
        }
        x.image();
        for (int i = 0; i < 80; i++) {
            x.feed('a');
        }
        return 0;
    };
    private static final Call ONE = x -> {
        x.points(1);
        x.add(1);
        x.weight(0, 3);
        return 0;
    };
    /** The empty set alone. */
    private static final Call HOLLOW = x -> {
        x.points(2);
        x.add(3);
        x.add(0);
        return 0;
    };
    private static final Call FRESH = x -> 0;

    public static void main(String[] args) {
        ofPoints();
        ofSets();
        ofQuestions();
        ofShelves();
        ofRows();
        ofTheTape();
        ofStepsAndImage();
        ofKinds();
        asked();
        end("refusals");
    }

    private static BlockerDesk made(Call state) {
        BlockerDesk x = new BlockerDesk();
        state.on(x);
        return x;
    }

    private static void refused(Call state, Call call, int want) {
        BlockerDesk x = made(state);
        due(call.on(x), want);
        dueAll(allOf(x), allOf(made(state)));
    }

    /** Numbers that are not least .. greatest, near by and far off. */
    private static int[] outside(int least, int greatest) {
        return new int[] {least - 1, greatest + 1, least - 64, greatest + 64, 1 << 8, 1 << 16, -(1 << 30), LEAST,
            GREATEST};
    }

    private static void ofPoints() {
        begin("points: BAD, n is 1 .. 6");
        for (int n : outside(1, 6)) {
            refused(BUSY, x -> x.points(n), BAD);
        }
        refused(FRESH, x -> x.points(0), BAD);
        begin("weight, kind, of: BAD, point is 0 .. n - 1");
        for (int p : outside(0, 3)) {
            refused(BUSY, x -> x.weight(p, 5), BAD);
            refused(BUSY, x -> x.weight(p, -5), BAD);
            refused(BUSY, x -> x.kind(p, 2), BAD);
            refused(BUSY, x -> x.kind(p, 9), BAD);
            refused(BUSY, x -> x.of(p, 0), BAD);
            refused(BUSY, x -> x.of(p, 4), BAD);
            refused(BUSY, x -> x.of(p, 5), BAD);
        }
        begin("weight: BAD, v is 0 .. 9");
        for (int v : outside(0, 9)) {
            refused(BUSY, x -> x.weight(3, v), BAD);
        }
        begin("kind, of: BAD, k and what are 0 .. 4");
        for (int k : outside(0, 4)) {
            refused(BUSY, x -> x.kind(3, k), BAD);
            refused(BUSY, x -> x.of(3, k), BAD);
        }
        begin("drop: BAD: point, how; STATE: there is but one POINT");
        for (int p : outside(0, 3)) {
            refused(BUSY, x -> x.drop(p, 0), BAD);
            refused(BUSY, x -> x.drop(p, 1), BAD);
        }
        for (int how : outside(0, 1)) {
            refused(BUSY, x -> x.drop(3, how), BAD);
            refused(ONE, x -> x.drop(0, how), BAD);
        }
        refused(ONE, x -> x.drop(1, 0), BAD);
        refused(ONE, x -> x.drop(-1, 1), BAD);
        refused(ONE, x -> x.drop(0, 0), STATE);
        refused(ONE, x -> x.drop(0, 1), STATE);
        begin("doubled, packsDoubled: BAD; FULL: there are 6 POINTS");
        for (int p : outside(0, 3)) {
            refused(BUSY, x -> x.doubled(p), BAD);
            refused(BUSY, x -> x.packsDoubled(p), BAD);
        }
        for (int p : outside(0, 5)) {
            refused(CROWDED, x -> x.doubled(p), BAD);
            refused(CROWDED, x -> x.packsDoubled(p), BAD);
        }
        for (int p = 0; p < 6; p++) {
            int point = p;
            refused(CROWDED, x -> x.doubled(point), FULL);
            refused(CROWDED, x -> x.packsDoubled(point), FULL);
        }
    }

    private static void ofSets() {
        begin("add, take, is, minor: a set is 0 .. (2 to the n, less 1); any other is BAD");
        for (int s : outside(0, 15)) {
            refused(BUSY, x -> x.add(s), BAD);
            refused(BUSY, x -> x.take(s), BAD);
            refused(BUSY, x -> x.is(s, 0), BAD);
            refused(BUSY, x -> x.is(s, 1), BAD);
            refused(BUSY, x -> x.is(s, 2), BAD);
            refused(BUSY, x -> x.minor(s, 0, -1), BAD);
            refused(BUSY, x -> x.minor(0, s, -1), BAD);
            refused(BUSY, x -> x.minor(s, 0, 99), BAD);
        }
        for (int s : outside(0, 63)) {
            refused(CROWDED, x -> x.add(s), BAD);
            refused(CROWDED, x -> x.take(s), BAD);
            refused(CROWDED, x -> x.minor(s, 0, 0), BAD);
            refused(CROWDED, x -> x.minor(0, s, 0), BAD);
        }
        refused(HOLLOW, x -> x.add(4), BAD);
        refused(ONE, x -> x.add(2), BAD);
        begin("take: NOT: it is none");
        refused(BUSY, x -> x.take(0), NOT);
        refused(BUSY, x -> x.take(7), NOT);
        refused(BUSY, x -> x.take(15), NOT);
        refused(FRESH, x -> x.take(0), NOT);
        refused(HOLLOW, x -> x.take(3), NOT);
        begin("is: BAD, what is 0 .. 2");
        for (int what : outside(0, 2)) {
            refused(BUSY, x -> x.is(3, what), BAD);
            refused(BUSY, x -> x.is(16, what), BAD);
        }
        begin("minor: BAD: d, c (a POINT in common, too), i; NOT: there are not so many");
        refused(BUSY, x -> x.minor(8, 8, -1), BAD);
        refused(BUSY, x -> x.minor(12, 10, -1), BAD);
        refused(BUSY, x -> x.minor(15, 1, 99), BAD);
        refused(BUSY, x -> x.minor(1, 1, -2), BAD);
        refused(BUSY, x -> x.minor(0, 0, -2), BAD);
        refused(BUSY, x -> x.minor(0, 0, LEAST), BAD);
        refused(BUSY, x -> x.minor(0, 0, 3), NOT);
        refused(BUSY, x -> x.minor(0, 0, GREATEST), NOT);
        refused(BUSY, x -> x.minor(15, 0, 0), NOT);
        begin("set, blocker: BAD: i below -1; NOT: there are not so many");
        refused(BUSY, x -> x.set(-2), BAD);
        refused(BUSY, x -> x.set(LEAST), BAD);
        refused(BUSY, x -> x.set(3), NOT);
        refused(BUSY, x -> x.set(64), NOT);
        refused(BUSY, x -> x.set(GREATEST), NOT);
        refused(FRESH, x -> x.set(-2), BAD);
        refused(FRESH, x -> x.set(0), NOT);
        refused(BUSY, x -> x.blocker(-2), BAD);
        refused(BUSY, x -> x.blocker(LEAST), BAD);
        refused(BUSY, x -> x.blocker(3), NOT);
        refused(BUSY, x -> x.blocker(GREATEST), NOT);
        refused(HOLLOW, x -> x.blocker(-2), BAD);
        refused(HOLLOW, x -> x.blocker(0), NOT);
        refused(FRESH, x -> x.blocker(1), NOT);
    }

    private static void ofQuestions() {
        begin("tau, lightest, allPack, bad: BAD, what is 0, 1; NOT");
        for (int what : outside(0, 1)) {
            for (Call state : new Call[] {FRESH, BUSY, HOLLOW}) {
                refused(state, x -> x.tau(what), BAD);
                refused(state, x -> x.lightest(what), BAD);
                refused(state, x -> x.allPack(what), BAD);
                refused(state, x -> x.bad(what), BAD);
            }
        }
        for (int what = 0; what < 2; what++) {
            int asked = what;
            refused(HOLLOW, x -> x.tau(asked), NOT);
            refused(HOLLOW, x -> x.lightest(asked), NOT);
        }
        refused(HOLLOW, x -> x.allPack(1), NOT);
        refused(HOLLOW, x -> x.bad(1), NOT);
        refused(FRESH, x -> x.allPack(1), NOT);
        refused(FRESH, x -> x.bad(1), NOT);
        begin("nu: BAD, times is 1, 2; NOT");
        for (int times : outside(1, 2)) {
            refused(FRESH, x -> x.nu(times), BAD);
            refused(BUSY, x -> x.nu(times), BAD);
            refused(HOLLOW, x -> x.nu(times), BAD);
        }
        refused(HOLLOW, x -> x.nu(1), NOT);
        refused(HOLLOW, x -> x.nu(2), NOT);
        begin("half: NOT");
        refused(HOLLOW, x -> x.half(), NOT);
        begin("count: BAD, what is 0 .. 8; by 4 and 5 NOT, if there are no sets");
        for (int what : outside(0, 8)) {
            refused(BUSY, x -> x.count(what), BAD);
            refused(FRESH, x -> x.count(what), BAD);
        }
        refused(FRESH, x -> x.count(4), NOT);
        refused(FRESH, x -> x.count(5), NOT);
        begin("say: BAD: i below -1; NOT: it has not so many");
        refused(BUSY, x -> x.say(-2), BAD);
        refused(BUSY, x -> x.say(LEAST), BAD);
        refused(BUSY, x -> x.say(8), NOT);
        refused(BUSY, x -> x.say(80), NOT);
        refused(BUSY, x -> x.say(GREATEST), NOT);
        refused(FRESH, x -> x.say(-2), BAD);
        refused(FRESH, x -> x.say(1), NOT);
        refused(HOLLOW, x -> x.say(1), NOT);
    }

    private static void ofShelves() {
        begin("keep, film: BAD, SHELVES are 0 .. 3");
        for (int shelf : outside(0, 3)) {
            refused(BUSY, x -> x.keep(shelf), BAD);
            refused(BUSY, x -> x.film(shelf), BAD);
        }
        begin("lay: BAD; -11; -12");
        for (int shelf : outside(0, 3)) {
            refused(BUSY, x -> x.lay(shelf), BAD);
        }
        refused(BUSY, x -> x.lay(3), -11);
        refused(BUSY, x -> x.lay(1), -12);
        for (int shelf = 0; shelf < 4; shelf++) {
            int asked = shelf;
            refused(FRESH, x -> x.lay(asked), -11);
        }
        begin("join: BAD; -11; -12; STATE");
        for (int shelf : outside(0, 3)) {
            refused(BUSY, x -> x.join(shelf, 0), BAD);
            refused(BUSY, x -> x.join(shelf, 1), BAD);
            refused(BUSY, x -> x.join(shelf, 2), BAD);
        }
        for (int how : outside(0, 1)) {
            for (int shelf = 0; shelf < 4; shelf++) {
                int asked = shelf;
                refused(BUSY, x -> x.join(asked, how), BAD);
            }
        }
        for (int how = 0; how < 2; how++) {
            int asked = how;
            refused(BUSY, x -> x.join(3, asked), -11);
            refused(BUSY, x -> x.join(1, asked), -12);
            refused(BUSY, x -> x.join(2, asked), STATE);
        }
        begin("same: BAD; -11; -12");
        for (int shelf : outside(0, 3)) {
            refused(BUSY, x -> x.same(shelf, 0), BAD);
            refused(BUSY, x -> x.same(shelf, 1), BAD);
            refused(BUSY, x -> x.same(shelf, 2), BAD);
        }
        for (int what : outside(0, 1)) {
            for (int shelf = 0; shelf < 4; shelf++) {
                int asked = shelf;
                refused(BUSY, x -> x.same(asked, what), BAD);
            }
        }
        for (int what = 0; what < 2; what++) {
            int asked = what;
            refused(BUSY, x -> x.same(3, asked), -11);
            refused(BUSY, x -> x.same(1, asked), -12);
        }
    }

    private static void ofRows() {
        begin("row: BAD: shelf, n above 40; -14: n below -1");
        for (int shelf : outside(0, 3)) {
            refused(BUSY, x -> x.row(shelf, 0), BAD);
            refused(BUSY, x -> x.row(shelf, -1), BAD);
            refused(BUSY, x -> x.row(shelf, -2), BAD);
            refused(BUSY, x -> x.row(shelf, 41), BAD);
        }
        for (int shelf = 0; shelf < 4; shelf++) {
            int asked = shelf;
            refused(BUSY, x -> x.row(asked, 41), BAD);
            refused(BUSY, x -> x.row(asked, GREATEST), BAD);
            refused(BUSY, x -> x.row(asked, -2), -14);
            refused(BUSY, x -> x.row(asked, LEAST), -14);
        }
        begin("put: BAD; -11; -12; -13; get: VOID: no such SHELF, nothing, no ROW, no such place");
        for (int shelf : outside(0, 3)) {
            refused(BUSY, x -> x.put(shelf, 0, 1), BAD);
            refused(BUSY, x -> x.put(shelf, -1, 1), BAD);
            refused(BUSY, x -> x.get(shelf, 0), LEAST);
            refused(BUSY, x -> x.get(shelf, -1), LEAST);
        }
        for (int i : new int[] {0, -1, 3, 40, LEAST, GREATEST}) {
            refused(BUSY, x -> x.put(3, i, 1), -11);
            refused(BUSY, x -> x.put(0, i, 1), -12);
            refused(BUSY, x -> x.get(3, i), LEAST);
            refused(BUSY, x -> x.get(0, i), LEAST);
        }
        for (int i : outside(0, 2)) {
            refused(BUSY, x -> x.put(1, i, 1), -13);
            refused(BUSY, x -> x.get(1, i), LEAST);
        }
        begin("judge: BAD; -11; -12");
        for (int shelf : outside(0, 3)) {
            refused(BUSY, x -> x.judge(shelf), BAD);
        }
        refused(BUSY, x -> x.judge(3), -11);
        refused(BUSY, x -> x.judge(0), -12);
    }

    private static void ofTheTape() {
        begin("feed: BAD; FULL: it has 80");
        for (int letter : outside(32, 126)) {
            refused(FRESH, x -> x.feed(letter), BAD);
            refused(BUSY, x -> x.feed(letter), BAD);
            refused(CROWDED, x -> x.feed(letter), BAD);
        }
        refused(CROWDED, x -> x.feed(32), FULL);
        refused(CROWDED, x -> x.feed(126), FULL);
        begin("read: by a FAULT nothing changes but that THE TAPE is empty");
        emptied(CROWDED, -100);
        emptied(x -> BUSY.on(x) + x.feed(';'), -111);
        emptied(x -> BUSY.on(x) + x.feed('x'), -106);
        emptied(x -> x.wipe() + BUSY.on(x) + x.wipe(), -100);
        begin("read: by an ACT refused nothing changes but that THE TAPE is empty");
        for (String act : new String[] {"add 4", "take 012", "take 7", "drop 4 0", "drop 0 2", "double 4",
            "weigh 4 0", "kind 4 0", "kind 0 5", "points 0", "points 7"}) {
            emptied(x -> {
                BUSY.on(x);
                x.wipe();
                feedText(x, act);
                return 0;
            }, -200);
        }
    }

    /** read() is refused in this state: all but THE TAPE is as if that had been wiped instead. */
    private static void emptied(Call state, int want) {
        BlockerDesk x = made(state);
        due(x.read(), want);
        BlockerDesk y = made(state);
        y.wipe();
        dueAll(allOf(x), allOf(y));
    }

    private static void ofStepsAndImage() {
        begin("back: STATE: there is none");
        refused(FRESH, x -> x.back(), STATE);
        refused(x -> BUSY.on(x) + x.points(3), x -> x.back(), STATE);
        refused(x -> BUSY.on(x) + x.undo(), x -> x.back(), STATE);
        begin("undo: STATE: there is none");
        refused(FRESH, x -> x.undo(), STATE);
        refused(ONE, x -> x.undo(), STATE);
        refused(HOLLOW, x -> x.undo(), STATE);
    }

    private static void ofKinds() {
        begin("act: 0, and nothing else, if BAD");
        for (int p : outside(0, 3)) {
            for (int act = 0; act < 3; act++) {
                int asked = act;
                refused(BUSY, x -> x.act(p, asked, 7), 0);
            }
        }
        for (int act : outside(0, 2)) {
            refused(BUSY, x -> x.act(3, act, 7), 0);
            refused(FRESH, x -> x.act(3, act, 7), 0);
        }
        begin("trace: NOT: none such");
        for (int i : outside(0, 6)) {
            refused(BUSY, x -> x.trace(i), NOT);
        }
        refused(FRESH, x -> x.trace(0), NOT);
        begin("taken: BAD; STATE: it is none");
        for (int p : outside(0, 3)) {
            refused(BUSY, x -> x.taken(p, 0), BAD);
            refused(BUSY, x -> x.taken(p, 5), BAD);
        }
        for (int k : outside(0, 4)) {
            refused(BUSY, x -> x.taken(1, k), BAD);
        }
        refused(BUSY, x -> x.taken(1, 3), STATE);
        refused(BUSY, x -> x.taken(0, 1), STATE);
    }

    /** What only asks leaves all as it was. */
    private static void asked() {
        Call[] questions = {
            x -> x.of(0, 2), x -> x.of(0, 3), x -> x.of(0, 4), x -> x.set(0), x -> x.set(-1), x -> x.blocker(0),
            x -> x.is(3, 0), x -> x.is(3, 1), x -> x.is(3, 2), x -> x.minor(1, 2, -1), x -> x.tau(0), x -> x.tau(1),
            x -> x.nu(1), x -> x.nu(2), x -> x.half(), x -> x.lightest(0), x -> x.lightest(1), x -> x.packs(),
            x -> x.allPack(0), x -> x.allPack(1), x -> x.bad(0), x -> x.bad(1), x -> x.packsDoubled(0),
            x -> x.same(0, 0), x -> x.same(0, 1), x -> x.get(1, 0), x -> x.judge(1), x -> x.say(0), x -> x.say(-1),
            x -> x.trace(0), x -> x.taken(0, 0), x -> x.count(2), x -> x.count(3), x -> x.count(4), x -> x.count(5)
        };
        begin("all that follows is asked, and changes nothing");
        for (Call state : new Call[] {FRESH, BUSY, CROWDED, ONE, HOLLOW}) {
            for (Call question : questions) {
                BlockerDesk x = made(state);
                int first = question.on(x);
                due(question.on(x), first);
                dueAll(allOf(x), allOf(made(state)));
            }
        }
        begin("what changes SHELVES alone is no STEP and leaves THE FAMILY");
        for (Call change : new Call[] {x -> x.keep(3), x -> x.film(3), x -> x.row(3, 4), x -> x.row(0, -1),
            x -> x.put(1, 2, 6), x -> x.image(), x -> x.wipe(), x -> x.act(0, 0, 1)}) {
            BlockerDesk x = made(BUSY);
            BlockerDesk y = made(BUSY);
            change.on(x);
            due(x.count(6), y.count(6));
            dueAll(board(x), board(y));
            due(x.back(), y.back());
            dueAll(board(x), board(y));
        }
    }
}
