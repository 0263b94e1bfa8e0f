/** For each promise of the document what it says of ordinary numbers, of edges and of wrong ones. */
public final class PromiseTests extends Rows {
    private static void begin(int number) {
        begin("promise " + number);
    }

    public static void main(String[] args) {
        newObject();
        points();
        weight();
        kind();
        of();
        add();
        take();
        drop();
        doubled();
        turn();
        setAndBlocker();
        is();
        minor();
        tau();
        nu();
        half();
        lightest();
        packs();
        allPack();
        bad();
        packsDoubled();
        keepAndLay();
        join();
        same();
        rows();
        film();
        judge();
        back();
        tape();
        readFaults();
        readActs();
        say();
        act();
        traceOf();
        taken();
        imageAndUndo();
        count();
        end("promises");
    }

    private static void newObject() {
        begin(1);
        BlockerDesk x = new BlockerDesk();
        due(x.count(0), 4);
        due(x.count(1), 0);
        due(x.count(6), 0);
        due(x.count(7), 0);
        due(x.count(8), 0);
        for (int p = 0; p < 4; p++) {
            due(x.of(p, 0), 0);
            due(x.of(p, 1), 1);
        }
        due(x.of(4, 0), -1);
        due(x.undo(), -5);
        due(x.back(), -5);
        due(x.trace(0), -2);
        due(BlockerDesk.BAD, -1);
        due(BlockerDesk.NOT, -2);
        due(BlockerDesk.FULL, -3);
        due(BlockerDesk.STATE, -5);
        due(BlockerDesk.VOID, LEAST);
    }

    private static void points() {
        begin(2);
        BlockerDesk x = new BlockerDesk();
        due(x.points(1), 4);
        due(x.points(6), 1);
        x.add(5);
        x.weight(2, 7);
        x.kind(2, 4);
        x.keep(1);
        x.image();
        x.feed(65);
        x.act(2, 2, 5);
        for (int n : new int[] {0, 7, -1, LEAST, GREATEST}) {
            due(x.points(n), -1);
        }
        due(x.count(0), 6);
        due(x.count(1), 1);
        due(x.count(6), 3);
        due(x.points(6), 6);
        due(x.count(1), 0);
        due(x.count(6), 0);
        due(x.count(7), 1);
        due(x.count(8), 1);
        due(x.of(2, 0), 0);
        due(x.of(2, 1), 1);
        due(x.trace(0), 50);
        due(x.undo(), 1);
        due(x.of(2, 0), 4);
    }

    private static void weight() {
        begin(3);
        BlockerDesk x = desk(3);
        due(x.weight(0, 9), 1);
        due(x.weight(0, 0), 9);
        due(x.weight(0, 0), 0);
        due(x.count(6), 2);
        due(x.of(0, 1), 0);
        due(x.of(1, 1), 1);
        due(x.weight(3, 1), -1);
        due(x.weight(-1, 1), -1);
        due(x.weight(0, 10), -1);
        due(x.weight(0, -1), -1);
        due(x.weight(LEAST, GREATEST), -1);
        due(x.count(6), 2);
    }

    private static void kind() {
        begin(4);
        BlockerDesk x = desk(3);
        due(x.kind(2, 4), 0);
        due(x.kind(2, 1), 4);
        due(x.kind(2, 1), 1);
        due(x.count(6), 2);
        due(x.of(2, 0), 1);
        due(x.kind(3, 1), -1);
        due(x.kind(-1, 1), -1);
        due(x.kind(0, 5), -1);
        due(x.kind(0, -1), -1);
        due(x.count(6), 2);
    }

    private static void of() {
        begin(5);
        BlockerDesk x = desk(5, 3, 5, 14);
        x.weight(0, 4);
        due(x.of(0, 0), 0);
        due(x.of(0, 1), 4);
        int[] weighs = {9, 9, 25, 4, 26};
        for (int k = 0; k < 5; k++) {
            x.kind(0, k);
            due(x.of(0, 2), weighs[k]);
        }
        x.weight(0, 0);
        int[] least = {1, 1, 1, 0, 2};
        for (int k = 0; k < 5; k++) {
            x.kind(0, k);
            due(x.of(0, 2), least[k]);
        }
        due(x.of(0, 3), 2);
        due(x.of(0, 4), 6);
        due(x.of(2, 3), 2);
        due(x.of(2, 4), 11);
        due(x.of(4, 3), 0);
        due(x.of(4, 4), 0);
        due(x.of(5, 0), -1);
        due(x.of(-1, 0), -1);
        due(x.of(0, 5), -1);
        due(x.of(0, -1), -1);
    }

    private static void add() {
        begin(6);
        BlockerDesk x = desk(4);
        due(x.add(7), 1);
        due(x.add(15), 0);
        due(x.add(7), 0);
        due(x.count(6), 1);
        due(x.add(12), 1);
        due(x.add(4), 1);
        setsAre(x, 4);
        due(x.add(3), 1);
        setsAre(x, 3, 4);
        due(x.add(0), 1);
        setsAre(x, 0);
        due(x.add(0), 0);
        due(x.add(1), 0);
        due(x.add(16), -1);
        due(x.add(-1), -1);
        due(x.add(LEAST), -1);
        due(x.add(GREATEST), -1);
        x.points(6);
        due(x.add(63), 1);
        due(x.add(64), -1);
        setsAre(x, 63);
        x.points(1);
        due(x.add(1), 1);
        due(x.add(2), -1);
    }

    private static void take() {
        begin(7);
        BlockerDesk x = desk(3, 1, 6);
        due(x.take(2), -2);
        due(x.take(8), -1);
        due(x.take(-1), -1);
        due(x.count(6), 2);
        due(x.take(1), 1);
        setsAre(x, 6);
        due(x.take(6), 0);
        due(x.take(6), -2);
        setsAre(x);
    }

    private static void drop() {
        begin(8);
        BlockerDesk x = desk(5, 3, 6, 28);
        x.kind(2, 3);
        x.weight(3, 8);
        x.keep(0);
        due(x.drop(1, 0), 1);
        setsAre(x, 14);
        due(x.count(0), 4);
        due(x.of(1, 0), 3);
        due(x.of(2, 1), 8);
        due(x.of(3, 1), 1);
        x.back();
        due(x.of(2, 0), 3);
        setsAre(x, 3, 6, 28);
        due(x.drop(1, 1), 2);
        setsAre(x, 1, 2);
        due(x.drop(4, 0), -1);
        due(x.drop(-1, 0), -1);
        due(x.drop(0, 2), -1);
        due(x.drop(0, -1), -1);
        x.points(1);
        x.add(1);
        due(x.drop(1, 0), -1);
        due(x.drop(0, 3), -1);
        due(x.drop(0, 0), -5);
        due(x.drop(0, 1), -5);
        x.points(2);
        x.add(2);
        due(x.drop(1, 1), 1);
        setsAre(x, 0);
        x.points(6);
        x.add(33);
        due(x.drop(5, 1), 1);
        setsAre(x, 1);
        x.points(6);
        due(x.drop(0, 0), 0);
        due(x.count(6), 1);
    }

    private static void doubled() {
        begin(9);
        BlockerDesk x = desk(4, 3, 6, 8);
        x.kind(1, 2);
        x.weight(1, 5);
        due(x.doubled(1), 5);
        setsAre(x, 3, 6, 8, 17, 20);
        due(x.of(4, 0), 2);
        due(x.of(4, 1), 5);
        due(x.doubled(5), -1);
        due(x.doubled(-1), -1);
        due(x.doubled(0), 7);
        due(x.count(0), 6);
        due(x.doubled(6), -1);
        due(x.doubled(0), -3);
        due(x.back(), 6);
        due(x.count(0), 5);
        x.points(1);
        due(x.doubled(0), 0);
        due(x.count(0), 2);
        due(x.count(6), 1);
    }

    private static void turn() {
        begin(10);
        BlockerDesk x = desk(4, 3, 12);
        due(x.turn(), 4);
        setsAre(x, 5, 6, 9, 10);
        due(x.count(6), 3);
        due(x.turn(), 2);
        setsAre(x, 3, 12);
        x.points(3);
        due(x.turn(), 1);
        setsAre(x, 0);
        due(x.turn(), 0);
        setsAre(x);
        x.add(3);
        x.add(5);
        x.add(6);
        int steps = x.count(6);
        due(x.turn(), 3);
        due(x.count(6), steps);
    }

    private static void setAndBlocker() {
        begin(11);
        BlockerDesk x = desk(4, 12, 3);
        setsAre(x, 3, 12);
        due(x.set(-2), -1);
        due(x.set(LEAST), -1);
        due(x.set(GREATEST), -2);
        begin(12);
        blockerIs(x, 5, 6, 9, 10);
        due(x.blocker(-2), -1);
        due(x.blocker(GREATEST), -2);
        setsAre(x, 3, 12);
        blockerIs(desk(4), 0);
        blockerIs(desk(4, 0));
        blockerIs(desk(6, 63), 1, 2, 4, 8, 16, 32);
        blockerIs(desk(5, RING), 11, 13, 21, 22, 26);
    }

    private static void is() {
        begin(13);
        BlockerDesk x = desk(4, 3, 12);
        due(x.is(3, 0), 1);
        due(x.is(7, 0), 0);
        due(x.is(5, 1), 1);
        due(x.is(3, 1), 0);
        due(x.is(15, 1), 1);
        due(x.is(3, 2), 1);
        due(x.is(7, 2), 1);
        due(x.is(5, 2), 0);
        due(x.is(16, 0), -1);
        due(x.is(-1, 0), -1);
        due(x.is(0, 3), -1);
        due(x.is(0, -1), -1);
        due(desk(2).is(0, 1), 1);
        due(desk(2).is(3, 2), 0);
        due(desk(2, 0).is(3, 1), 0);
        due(desk(2, 0).is(0, 2), 1);
    }

    private static void minor() {
        begin(14);
        BlockerDesk x = desk(5, RING);
        due(x.minor(0, 0, -1), 5);
        due(x.minor(0, 0, 4), 24);
        due(x.minor(1, 0, -1), 3);
        due(x.minor(1, 0, 0), 6);
        due(x.minor(0, 1, -1), 3);
        due(x.minor(0, 1, 0), 2);
        due(x.minor(0, 1, 1), 12);
        due(x.minor(0, 1, 2), 16);
        due(x.minor(0, 1, 3), -2);
        due(x.minor(8, 3, -1), 1);
        due(x.minor(8, 3, 0), 0);
        due(x.minor(31, 0, -1), 0);
        due(x.minor(0, 31, 0), 0);
        due(x.minor(32, 0, 0), -1);
        due(x.minor(-1, 0, 0), -1);
        due(x.minor(0, 32, 0), -1);
        due(x.minor(0, -1, 0), -1);
        due(x.minor(3, 2, 0), -1);
        due(x.minor(0, 0, -2), -1);
        due(x.minor(0, 0, 5), -2);
        setsAre(x, 3, 6, 12, 17, 24);
    }

    private static void tau() {
        begin(15);
        due(desk(5, RING).tau(0), 3);
        due(desk(5, RING).tau(1), 11);
        due(desk(4, 10, 12).tau(0), 1);
        due(desk(4, 10, 12).tau(1), 8);
        due(desk(4).tau(0), 0);
        due(desk(4).tau(1), 0);
        due(desk(6, 1, 2, 4, 8, 16, 32).tau(0), 6);
        due(desk(6, 1, 2, 4, 8, 16, 32).tau(1), 63);
        due(desk(4, 0).tau(0), -2);
        due(desk(4, 0).tau(1), -2);
        due(desk(4, 0).tau(2), -1);
        due(desk(4).tau(-1), -1);
    }

    private static void nu() {
        begin(16);
        due(desk(5, RING).nu(1), 2);
        due(desk(5, RING).nu(2), 5);
        due(desk(3, 3, 5, 6).nu(1), 1);
        due(desk(3, 3, 5, 6).nu(2), 3);
        due(desk(4).nu(1), 0);
        due(desk(4).nu(2), 0);
        due(desk(6, 1, 2, 4, 8, 16, 32).nu(1), 6);
        due(desk(6, 1, 2, 4, 8, 16, 32).nu(2), 12);
        due(desk(6, 63).nu(1), 1);
        due(desk(6, 63).nu(2), 2);
        due(desk(6, 3, 6, 5, 24, 48, 40).nu(1), 2);
        due(desk(6, 3, 6, 5, 24, 48, 40).nu(2), 6);
        due(desk(4, 0).nu(1), -2);
        due(desk(4, 0).nu(2), -2);
        due(desk(4, 0).nu(0), -1);
        due(desk(4).nu(3), -1);
    }

    private static void half() {
        begin(17);
        due(desk(5, RING).half(), 5);
        due(desk(3, 3, 5, 6).half(), 3);
        due(desk(4).half(), 0);
        due(desk(1, 1).half(), 2);
        due(desk(6, 1, 2, 4, 8, 16, 32).half(), 12);
        due(desk(6, 63).half(), 2);
        due(desk(4, 0).half(), -2);
        BlockerDesk wheel = desk(5, RING);
        wheel.turn();
        due(wheel.half(), 4);
    }

    private static void lightest() {
        begin(18);
        BlockerDesk x = desk(4, 3, 12);
        due(x.lightest(0), 5);
        due(x.lightest(1), 6);
        x.weight(0, 2);
        due(x.lightest(0), 6);
        x.kind(3, 3);
        due(x.lightest(0), 10);
        due(x.lightest(1), 4);
        x.weight(3, 0);
        due(x.lightest(1), 3);
        due(desk(4).lightest(0), 0);
        due(desk(4).lightest(1), 0);
        BlockerDesk free = desk(2, 2);
        free.kind(0, 3);
        free.weight(0, 0);
        due(free.lightest(0), 2);
        free.kind(1, 3);
        free.weight(1, 0);
        due(free.lightest(0), 2);
        due(free.lightest(1), 0);
        due(desk(4, 0).lightest(0), -2);
        due(desk(4, 0).lightest(1), -2);
        due(desk(4, 0).lightest(2), -1);
        due(desk(4).lightest(-1), -1);
    }

    private static void packs() {
        begin(19);
        due(desk(4, 3, 12).packs(), 1);
        due(desk(3, 3, 5, 6).packs(), 0);
        due(desk(5, RING).packs(), 0);
        due(desk(4).packs(), 1);
        due(desk(4, 0).packs(), 1);
        due(desk(4, 3, 5, 6, 8).packs(), 0);
    }

    private static void allPack() {
        begin(20);
        due(desk(4, 3, 12).allPack(0), 1);
        due(desk(4, 3, 12).allPack(1), -2);
        due(desk(4, 0).allPack(0), 1);
        BlockerDesk x = desk(4, 3, 5, 6, 8);
        due(x.allPack(0), 0);
        due(x.allPack(1), 0);
        // 3 is put to each of the pairs of 0, 1, 2: packs as it is, not when 3 is contracted
        BlockerDesk y = desk(4, 11, 13, 14);
        due(y.packs(), 1);
        due(y.allPack(0), 0);
        due(y.allPack(1), 8);
        BlockerDesk w = desk(4, 3, 5, 6, 9, 12, 10);
        due(w.packs(), 0);
        due(w.allPack(1), 0);
        // the pair of 0 and 3 makes it pack, until 3 is deleted
        BlockerDesk v = desk(4, 3, 5, 6, 9);
        due(v.packs(), 1);
        due(v.allPack(0), 0);
        due(v.allPack(1), 64 * 8);
        due(v.allPack(2), -1);
        due(v.allPack(-1), -1);
        setsAre(v, 3, 5, 6, 9);
    }

    private static void bad() {
        begin(21);
        due(desk(4, 3, 12).bad(0), 0);
        due(desk(4, 3, 12).bad(1), -2);
        due(desk(3, 3, 5, 6).bad(0), 1);
        due(desk(3, 3, 5, 6).bad(1), 0);
        due(desk(4, 3, 5, 9, 14).bad(0), 1);
        due(desk(6, 33, 34, 36, 40, 48, 31).bad(0), 1);
        due(desk(6, 33, 34, 36, 40, 48, 31).bad(1), 0);
        due(desk(5, RING).bad(0), 2);
        BlockerDesk wheel = desk(5, RING);
        wheel.turn();
        due(wheel.bad(0), 3);
        due(wheel.bad(1), 0);
        // a FAN of three in four POINTS is one only when the fourth is gone: contracting comes first
        due(desk(4, 3, 5, 6).bad(0), 1);
        due(desk(4, 3, 5, 6).bad(1), 8);
        due(desk(4, 11, 13, 14).bad(1), 8);
        due(desk(4, 3, 5, 6, 8).bad(1), 64 * 8);
        due(desk(6, RING).bad(0), 2);
        due(desk(6, RING).bad(1), 32);
        due(desk(6, 3, 6, 12, 24, 17, 32).bad(0), 2);
        due(desk(6, 3, 6, 12, 24, 17, 32).bad(1), 64 * 32);
        due(desk(4).bad(2), -1);
        due(desk(4).bad(-1), -1);
    }

    private static void packsDoubled() {
        begin(22);
        BlockerDesk x = desk(4, 3, 5, 6, 9);
        for (int p = 0; p < 4; p++) {
            BlockerDesk y = desk(4, 3, 5, 6, 9);
            y.doubled(p);
            due(x.packsDoubled(p), y.packs());
        }
        due(x.packsDoubled(0), 0);
        due(x.packsDoubled(3), 1);
        due(desk(3, 3, 5, 6).packsDoubled(0), 1);
        setsAre(x, 3, 5, 6, 9);
        due(x.count(6), 4);
        due(x.packsDoubled(4), -1);
        due(x.packsDoubled(-1), -1);
        due(desk(6, 1).packsDoubled(6), -1);
        due(desk(6, 1).packsDoubled(0), -3);
        due(desk(1, 0).packsDoubled(0), 1);
    }

    private static void keepAndLay() {
        begin(23);
        BlockerDesk x = desk(3, 3, 4);
        due(x.keep(4), -1);
        due(x.keep(-1), -1);
        due(x.keep(0), 2);
        due(x.row(1, 4), 1);
        due(x.keep(1), 2);
        due(x.get(1, 0), LEAST);
        due(x.count(8), 2);
        due(x.count(6), 2);
        begin(24);
        due(x.lay(2), -11);
        due(x.lay(4), -1);
        due(x.lay(-1), -1);
        x.row(3, 0);
        due(x.lay(3), -12);
        due(x.lay(0), 2);
        due(x.count(6), 2);
        x.points(6);
        x.kind(1, 4);
        x.weight(4, 7);
        x.add(63);
        due(x.lay(0), 2);
        due(x.count(0), 3);
        due(x.of(1, 0), 4);
        due(x.count(6), 4);
        setsAre(x, 3, 4);
        x.points(5);
        x.keep(0);
        x.lay(1);
        x.kind(2, 1);
        due(x.lay(0), 0);
        due(x.count(0), 5);
        due(x.of(2, 0), 1);
        due(x.of(4, 0), 0);
        due(x.of(4, 1), 1);
        x.points(6);
        x.weight(4, 7);
        x.lay(1);
        x.lay(0);
        due(x.of(4, 1), 1);
        due(x.back(), 2);
        due(x.back(), 1);
        due(x.of(4, 1), 7);
    }

    private static void join() {
        begin(25);
        BlockerDesk x = desk(4, 3, 12);
        x.keep(0);
        x.points(4);
        x.add(1);
        x.add(8);
        due(x.join(4, 0), -1);
        due(x.join(-1, 0), -1);
        due(x.join(0, 2), -1);
        due(x.join(0, -1), -1);
        due(x.join(1, 2), -1);
        due(x.join(1, 0), -11);
        x.row(1, 2);
        due(x.join(1, 0), -12);
        int steps = x.count(6);
        due(x.join(0, 0), 2);
        due(x.count(6), steps);
        setsAre(x, 1, 8);
        due(x.join(0, 1), 2);
        setsAre(x, 3, 12);
        due(x.count(6), steps + 1);
        x.points(4);
        x.add(6);
        x.add(8);
        due(x.join(0, 0), 3);
        setsAre(x, 3, 6, 8);
        due(x.join(0, 1), 2);
        setsAre(x, 3, 12);
        x.points(4);
        due(x.join(0, 1), 0);
        x.add(0);
        due(x.join(0, 1), 2);
        setsAre(x, 3, 12);
        x.points(4);
        x.add(5);
        x.add(6);
        due(x.join(0, 1), 3);
        setsAre(x, 7, 13, 14);
        x.points(5);
        due(x.join(0, 0), -5);
        due(x.join(0, 1), -5);
        due(x.join(0, 7), -1);
    }

    private static void same() {
        begin(26);
        BlockerDesk x = desk(4, 3, 12);
        due(x.same(0, 0), -11);
        due(x.same(4, 0), -1);
        due(x.same(0, 2), -1);
        due(x.same(0, -1), -1);
        x.keep(0);
        due(x.same(0, 0), 1);
        due(x.same(0, 1), 0);
        x.turn();
        due(x.same(0, 0), 0);
        due(x.same(0, 1), 1);
        x.row(0, 1);
        due(x.same(0, 0), -12);
        BlockerDesk y = desk(4);
        y.keep(0);
        y.points(5);
        due(y.same(0, 0), 0);
        y.add(0);
        due(y.same(0, 1), 0);
        y.points(4);
        due(y.same(0, 0), 1);
        y.add(0);
        due(y.same(0, 1), 1);
    }

    private static void rows() {
        begin(27);
        BlockerDesk x = desk(4, 3);
        due(x.row(4, 1), -1);
        due(x.row(-1, -9), -1);
        due(x.row(0, 41), -1);
        due(x.row(0, GREATEST), -1);
        due(x.row(0, -2), -14);
        due(x.row(0, LEAST), -14);
        due(x.row(0, 40), 1);
        due(x.count(8), 1);
        begin(28);
        due(x.put(0, 39, LEAST), 1);
        due(x.put(0, 40, 1), -13);
        due(x.put(0, -1, 1), -13);
        due(x.put(1, 0, 1), -11);
        due(x.put(4, 0, 1), -1);
        due(x.put(-1, 0, 1), -1);
        x.keep(2);
        due(x.put(2, 99, 1), -12);
        x.put(0, 0, 77);
        begin(29);
        due(x.get(0, 39), LEAST);
        due(x.get(0, 0), 77);
        due(x.get(0, 1), 0);
        due(x.get(0, 40), LEAST);
        due(x.get(0, -1), LEAST);
        due(x.get(1, 0), LEAST);
        due(x.get(2, 0), LEAST);
        due(x.get(4, 0), LEAST);
        begin(27);
        due(x.row(0, 2), 1);
        due(x.get(0, 0), 0);
        due(x.put(0, 2, 5), -13);
        due(x.row(0, 0), 1);
        due(x.put(0, 0, 5), -13);
        due(x.count(8), 2);
        due(x.row(0, -1), 1);
        due(x.row(2, -1), 1);
        due(x.count(8), 0);
        due(x.put(0, 0, 5), -11);
        due(x.row(3, -1), 1);
    }

    private static void film() {
        begin(30);
        BlockerDesk x = desk(4, 3, 12);
        due(x.film(4), -1);
        due(x.film(-1), -1);
        due(x.film(0), 4);
        due(x.get(0, 0), 5);
        due(x.get(0, 3), 10);
        due(x.get(0, 4), LEAST);
        due(x.judge(0), -2);
        x.keep(1);
        x.points(3);
        x.add(0);
        due(x.film(1), 0);
        due(x.put(1, 0, 1), -13);
        due(x.judge(1), -2);
        x.points(2);
        due(x.film(1), 1);
        due(x.get(1, 0), 0);
        due(x.get(1, 1), LEAST);
    }

    private static void judge() {
        begin(31);
        BlockerDesk x = desk(4, 3, 12);
        due(x.judge(0), -11);
        due(x.judge(4), -1);
        due(x.judge(-1), -1);
        x.keep(0);
        due(x.judge(0), -12);
        x.row(0, 0);
        due(x.judge(0), 100);
        x.row(0, 2);
        due(x.judge(0), 0);
        x.put(0, 0, 10);
        due(x.judge(0), 1);
        x.put(0, 1, 10);
        due(x.judge(0), 1);
        x.put(0, 1, 5);
        due(x.judge(0), 102);
        x.put(0, 1, 5 + 64);
        due(x.judge(0), 1);
        x.put(0, 1, -59);
        due(x.judge(0), 1);
        x.film(0);
        due(x.judge(0), -2);
        x.add(1);
        due(x.judge(0), 1);
    }

    private static void back() {
        begin(32);
        BlockerDesk x = desk(3);
        due(x.back(), -5);
        x.add(1);
        x.weight(0, 5);
        x.kind(1, 2);
        x.doubled(0);
        x.drop(0, 1);
        x.turn();
        due(x.take(99), -1);
        due(x.take(1), -2);
        int steps = x.count(6);
        due(steps, 6);
        due(x.back(), 5);
        due(x.back(), 4);
        due(x.count(0), 4);
        due(x.back(), 3);
        due(x.count(0), 3);
        due(x.back(), 2);
        due(x.of(1, 0), 0);
        due(x.back(), 1);
        due(x.of(0, 1), 1);
        due(x.back(), 0);
        due(x.count(1), 0);
        due(x.back(), -5);
        for (int v = 2; v < 10; v++) {
            x.weight(0, v);
        }
        x.weight(1, 2);
        x.weight(1, 3);
        due(x.count(6), 10);
        x.weight(1, 4);
        due(x.count(6), 10);
        x.weight(1, 5);
        x.weight(1, 6);
        due(x.count(6), 10);
        for (int left = 9; left >= 0; left--) {
            due(x.back(), left);
            due(x.of(1, 1), Math.max(1, left - 4));
        }
        due(x.back(), -5);
        due(x.of(0, 1), 4);
        due(x.of(1, 1), 1);
    }

    private static void tape() {
        begin(33);
        BlockerDesk x = desk(3);
        due(x.feed(31), -1);
        due(x.feed(127), -1);
        due(x.feed(-1), -1);
        due(x.feed(32), 1);
        due(x.feed(126), 2);
        for (int i = 3; i <= 80; i++) {
            due(x.feed(65), i);
        }
        due(x.feed(65), -3);
        due(x.feed(127), -1);
        due(x.count(7), 80);
        begin(34);
        due(x.wipe(), 80);
        due(x.wipe(), 0);
        due(x.feed(65), 1);
        due(x.wipe(), 1);
    }

    private static void readFaults() {
        begin(35);
        BlockerDesk x = desk(4);
        String[] texts = {"", "turn;", ";turn", "turn;;turn", " turn", "turn ", "turn 1", "ad 1", "addd 1",
            "add", "add ", "add  1", "add 8", "add 08", "add 10", "add 11", "add 120", "add -1", "add 1-",
            "add 01 2", "add 0,1", "add01", "Add 1", "take", "take x", "drop 0", "drop 0 ", "drop 0 0 ",
            "drop 00 0", "drop 0;turn", "double -", "weigh 1 10", "kind 1", "points 10", "points",
            "turn;add 0;foo 1", "turn; add 0", "turn.", "ad", "turn;tur"};
        int[] faults = {0, 5, 0, 5, 0, 4, 4, 0, 0,
            3, 4, 4, 4, 5, 5, 5, 6, 5, 5,
            6, 5, 3, 0, 4, 5, 6, 7, 8,
            6, 6, 7, 9, 6, 8, 6,
            11, 5, 4, 0, 5};
        for (int i = 0; i < texts.length; i++) {
            due(readText(x, texts[i]), -100 - faults[i]);
            due(x.count(7), 0);
        }
        due(x.count(1), 0);
        due(x.count(6), 0);
    }

    private static void readActs() {
        begin(35);
        BlockerDesk x = desk(4);
        due(readText(x, "add 01;add 23;add 012;take 23;weigh 2 7;kind 3 4;double 0;turn;drop 4 1"), 9);
        due(x.count(0), 4);
        due(x.of(2, 1), 7);
        due(x.of(3, 0), 4);
        due(x.count(6), 8);
        due(x.count(7), 0);
        due(readText(x, "points 6;add 012345"), 2);
        due(x.count(0), 6);
        due(x.count(6), 1);
        setsAre(x, 63);
        due(readText(x, "add 67"), -200);
        due(readText(x, "add 0;add 1;take 2;add 3"), -202);
        setsAre(x, 1, 2);
        due(x.count(7), 0);
        due(x.count(6), 3);
        due(readText(x, "add 3;points 0"), -201);
        due(readText(x, "points 7"), -200);
        due(readText(x, "kind 0 5"), -200);
        due(readText(x, "drop 0 2"), -200);
        due(readText(x, "weigh 6 1"), -200);
        due(readText(x, "double 1"), -200);
        due(readText(x, "points 1;drop 0 0"), -201);
        due(x.count(0), 1);
        due(readText(x, "add -;add -"), 2);
        setsAre(x, 0);
        due(readText(x, "take -;take -"), -201);
        due(readText(x, "weigh 0 9;weigh 0 0"), 2);
        due(readText(x, "turn;turn;turn;turn;turn;turn;turn;turn;turn;turn;turn;turn;turn;turn;turn;turn"), 16);
        due(x.count(6), 10);
        due(readText(x, "add 0;ad 1"), -106);
        setsAre(x);
    }

    private static void say() {
        begin(36);
        saidIs(desk(4), ".");
        saidIs(desk(4, 0), "-");
        saidIs(desk(6, 56, 7, 9), "012,03,345");
        BlockerDesk x = desk(6);
        for (int s = 0; s < 64; s++) {
            if (Integer.bitCount(s) == 3) {
                x.add(s);
            }
        }
        due(x.say(-1), 79);
        due(x.say(78), '5');
        due(x.say(79), -2);
        due(x.say(-2), -1);
        due(x.say(LEAST), -1);
        due(x.say(GREATEST), -2);
    }

    private static void act() {
        begin(37);
        BlockerDesk x = desk(6);
        x.weight(3, 4);
        int[][] answers = {{8, 1, 10}, {16, 9, 10}, {16, -12, 9}, {9, 2, 10}, {16, 0, 36}};
        for (int k = 0; k < 5; k++) {
            x.kind(3, k);
            for (int a = 0; a < 3; a++) {
                due(x.act(3, a, 5), answers[k][a]);
            }
        }
        x.kind(3, 1);
        due(x.act(3, 0, GREATEST), (GREATEST + 3) * 2);
        due(x.act(3, 2, GREATEST), GREATEST + 5);
        due(x.act(6, 0, 5), 0);
        due(x.act(-1, 0, 5), 0);
        due(x.act(3, 3, 5), 0);
        due(x.act(3, -1, 5), 0);
        traceIs(x, 1);
        due(x.count(6), 6);
    }

    private static void traceOf() {
        begin(38);
        BlockerDesk x = desk(4);
        due(x.trace(0), -2);
        int[][][] traces = {
            {{10}, {11, 10, 1}, {1}},
            {{20, 10}, {11, 20, 10, 1}, {1}},
            {{20, 10}, {31, 11, 20, 10, 30, 1}, {30, 1}},
            {{40, 10}, {11, 40, 10, 1}, {1}},
            {{20, 10}, {31, 11, 20, 10, 50, 30, 1}, {50, 30, 1}}
        };
        for (int k = 0; k < 5; k++) {
            x.kind(1, k);
            for (int a = 0; a < 3; a++) {
                x.act(1, a, 5);
                traceIs(x, traces[k][a]);
            }
        }
        due(x.trace(-1), -2);
        due(x.trace(LEAST), -2);
        due(x.trace(GREATEST), -2);
    }

    private static void taken() {
        begin(39);
        BlockerDesk x = desk(4);
        x.weight(2, 6);
        boolean[][] under = {
            {true, false, false, false, false}, {true, true, false, false, false},
            {true, true, true, false, false}, {true, false, false, true, false},
            {true, true, true, false, true}
        };
        for (int own = 0; own < 5; own++) {
            x.kind(2, own);
            for (int k = 0; k < 5; k++) {
                due(x.taken(2, k), under[own][k] ? 6 : -5);
            }
        }
        due(x.taken(4, 0), -1);
        due(x.taken(-1, 0), -1);
        due(x.taken(0, 5), -1);
        due(x.taken(0, -1), -1);
    }

    private static void imageAndUndo() {
        begin(40);
        BlockerDesk x = desk(3, 3, 4);
        x.kind(1, 3);
        x.weight(1, 0);
        due(x.image(), 2);
        due(x.count(6), 4);
        begin(41);
        due(desk(3).undo(), -5);
        x.doubled(1);
        x.feed(65);
        x.film(2);
        x.act(0, 0, 1);
        due(x.undo(), 2);
        due(x.count(0), 3);
        due(x.of(1, 0), 3);
        due(x.of(1, 1), 0);
        setsAre(x, 3, 4);
        due(x.count(6), 0);
        due(x.count(7), 1);
        due(x.count(8), 1);
        due(x.trace(0), 10);
        x.points(1);
        due(x.undo(), 2);
        due(x.undo(), 2);
        x.take(4);
        due(x.image(), 1);
        x.add(0);
        due(x.undo(), 1);
        setsAre(x, 3);
    }

    private static void count() {
        begin(42);
        BlockerDesk x = desk(5, 3, 13);
        due(x.count(0), 5);
        due(x.count(1), 2);
        due(x.count(2), 15);
        due(x.count(3), 1);
        due(x.count(4), 2);
        due(x.count(5), 3);
        due(x.count(6), 2);
        due(x.count(7), 0);
        due(x.count(8), 0);
        due(x.count(9), -1);
        due(x.count(-1), -1);
        x.points(6);
        due(x.count(2), 0);
        due(x.count(3), 63);
        due(x.count(4), -2);
        due(x.count(5), -2);
        x.add(0);
        due(x.count(3), 0);
        due(x.count(4), 0);
        due(x.count(5), 0);
        x.points(6);
        x.add(63);
        due(x.count(4), 6);
        due(x.count(5), 6);
    }
}
