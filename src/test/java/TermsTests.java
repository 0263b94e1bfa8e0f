/** The sentences of the document's Terms that name a boundary: too small, too large, empty, full, a wrap-around. */
public final class TermsTests extends Rows {
    private static final int HARD = 1, SOFT = 2, TWIN = 3, CORE = 4;

    public static void main(String[] args) {
        numberOfPoints();
        orderOfSets();
        theFamily();
        innerOnes();
        kindsAndWeights();
        weighs();
        comes();
        dropped();
        doubledOnes();
        coversAndBlocker();
        minors();
        tauAndNu();
        halves();
        lightest();
        packing();
        fans();
        ringsAndWheels();
        shelves();
        sumAndProduct();
        judged();
        whatLayBrings();
        end("terms");
    }

    private static void numberOfPoints() {
        begin("POINTS 0 .. n - 1 (n 1 .. 6; 4 at first)");
        due(new BlockerDesk().count(0), 4);
        due(new BlockerDesk().weight(3, 2), 1);
        due(new BlockerDesk().weight(4, 2), BAD);
        due(new BlockerDesk().points(4), 4);
        for (int n = 1; n <= 6; n++) {
            BlockerDesk x = desk(n);
            due(x.count(0), n);
            due(x.weight(0, 2), 1);
            due(x.weight(n - 1, 2), n == 1 ? 2 : 1);
            due(x.weight(n, 2), BAD);
            due(x.kind(n - 1, 1), 0);
            due(x.kind(n, 1), BAD);
            due(x.points(n), n);
        }
        begin("A set: 0 .. (2 to the n, less 1); any other is BAD");
        for (int n = 1; n <= 6; n++) {
            int all = (1 << n) - 1;
            BlockerDesk x = desk(n);
            due(x.is(0, 0), 0);
            due(x.is(all, 1), 1);
            due(x.is(all + 1, 1), BAD);
            due(x.minor(all, 0, -1), 0);
            due(x.minor(0, all, -1), 0);
            due(x.minor(all + 1, 0, -1), BAD);
            due(x.minor(0, all + 1, -1), BAD);
            due(x.take(all), NOT);
            due(x.take(all + 1), BAD);
            due(x.add(all + 1), BAD);
            due(x.add(all), 1);
            due(x.take(all), 0);
            due(x.add(0), 1);
            due(x.take(0), 0);
        }
    }

    private static void orderOfSets() {
        begin("Sets of POINTS are told as bits, and are in the order of these numbers");
        BlockerDesk x = desk(6, 32, 24, 20, 9, 6, 3);
        setsAre(x, 3, 6, 9, 20, 24, 32);
        saidIs(x, "01,12,03,24,34,5");
        blockerIs(x, 45, 46, 51, 53, 58);
        x.film(0);
        rowIs(x, 0, 45, 46, 51, 53, 58);
        minorIs(x, 32, 1, 2, 8, 20);
    }

    private static void theFamily() {
        begin("THE FAMILY: none at first; the empty set may be one, then it is the only one");
        setsAre(new BlockerDesk());
        BlockerDesk x = desk(6);
        addSized(x, 3);
        due(x.count(1), 20);
        due(x.set(0), 7);
        due(x.set(19), 56);
        due(x.set(20), NOT);
        due(x.add(0), 1);
        setsAre(x, 0);
        due(x.add(63), 0);
        due(x.add(1), 0);
        setsAre(x, 0);
        due(x.take(0), 0);
        setsAre(x);
        due(x.add(63), 1);
        setsAre(x, 63);
    }

    private static void innerOnes() {
        begin("INNER ones: those that have none of the others within them (of like ones one)");
        BlockerDesk x = desk(4, 5, 6, 8);
        minorIs(x, 0, 3, 4, 8);
        minorIs(x, 0, 7, 0);
        minorIs(x, 0, 4, 1, 2, 8);
        minorIs(x, 0, 8, 0);
        due(x.drop(0, 1), 2);
        setsAre(x, 2, 4);
        BlockerDesk y = desk(3, 5, 6);
        y.drop(0, 1);
        due(y.drop(0, 1), 1);
        setsAre(y, 1);
        BlockerDesk z = desk(3, 3, 5);
        z.keep(0);
        due(z.join(0, 0), 2);
        due(z.join(0, 1), 2);
        setsAre(z, 3, 5);
    }

    private static void kindsAndWeights() {
        begin("A POINT has a KIND: 0 (at first) .. 4; and a WEIGHT (0 .. 9; 1 at first)");
        kindsAre(new BlockerDesk(), 0, 0, 0, 0);
        weightsAre(new BlockerDesk(), 1, 1, 1, 1);
        BlockerDesk x = desk(6);
        kindsAre(x, 0, 0, 0, 0, 0, 0);
        weightsAre(x, 1, 1, 1, 1, 1, 1);
        for (int k = 0; k < 5; k++) {
            due(x.kind(k, k), 0);
            due(x.kind(5, k), Math.max(0, k - 1));
        }
        kindsAre(x, 0, 1, 2, 3, 4, 4);
        x.points(2);
        for (int v = 0; v < 10; v++) {
            due(x.weight(0, v), v == 0 ? 1 : v - 1);
            due(x.of(0, 1), v);
            due(x.of(1, 1), 1);
        }
        begin("1 HARD under POINT; 2 SOFT under HARD; 3 TWIN under POINT; 4 CORE under SOFT");
        String[] under = {"0", "01", "012", "03", "0124"};
        for (int k = 0; k < 5; k++) {
            x.kind(1, k);
            for (int above = 0; above < 5; above++) {
                due(x.taken(1, above), under[k].indexOf('0' + above) >= 0 ? 1 : STATE);
            }
        }
    }

    private static void weighs() {
        begin("WEIGHS: 2 times WEIGHT, and 1; SOFT 3 times that, less 2; TWIN half (cut); CORE 1 more than a SOFT one");
        int[][] due = {{1, 1, 1, 0, 2}, {3, 3, 7, 1, 8}, {5, 5, 13, 2, 14}, {19, 19, 55, 9, 56}};
        int[] weights = {0, 1, 2, 9};
        BlockerDesk x = desk(6);
        for (int w = 0; w < 4; w++) {
            for (int k = 0; k < 5; k++) {
                x.weight(5, weights[w]);
                x.kind(5, k);
                due(x.of(5, 2), due[w][k]);
            }
        }
        begin("LIGHTEST: WEIGHS of all its POINTS together, of six at most");
        BlockerDesk y = desk(6, SINGLES);
        for (int p = 0; p < 6; p++) {
            y.weight(p, 9);
            y.kind(p, CORE);
        }
        due(y.lightest(0), 63);
        due(y.lightest(1), 6 * 56);
    }

    private static void comes() {
        begin("A set COMES: if one of it is within that (or is it), nothing changes");
        BlockerDesk x = desk(5, 6, 9);
        for (int s : new int[] {6, 9, 7, 14, 22, 11, 31, 15}) {
            due(x.add(s), 0);
        }
        setsAre(x, 6, 9);
        due(x.count(6), 2);
        begin("A set COMES: else all that have it within them go, and it is one");
        due(x.add(5), 1);
        setsAre(x, 5, 6, 9);
        due(x.add(2), 1);
        setsAre(x, 2, 5, 9);
        due(x.add(1), 1);
        setsAre(x, 1, 2);
        due(x.add(28), 1);
        setsAre(x, 1, 2, 28);
        due(x.add(0), 1);
        setsAre(x, 0);
        due(x.add(0), 0);
    }

    private static void dropped() {
        begin("DROPPED by 0 (DELETED): all sets with it go");
        BlockerDesk x = desk(4, 3, 5, 9);
        due(x.drop(0, 0), 0);
        setsAre(x);
        due(x.count(0), 3);
        BlockerDesk y = desk(4, 3, 6, 12);
        due(y.drop(3, 0), 2);
        setsAre(y, 3, 6);
        BlockerDesk none = desk(2, 0);
        due(none.drop(0, 0), 1);
        setsAre(none, 0);
        begin("DROPPED by 1 (CONTRACTED): it goes out of all sets, INNER ones are left");
        BlockerDesk z = desk(4, 3, 6, 12);
        due(z.drop(3, 1), 2);
        setsAre(z, 3, 4);
        due(z.drop(2, 1), 1);
        setsAre(z, 0);
        due(z.drop(0, 1), 1);
        due(z.count(0), 1);
        setsAre(z, 0);
        due(z.drop(0, 1), STATE);
        begin("DROPPED: it is no POINT any more, those behind it have numbers less by 1");
        for (int p = 0; p < 6; p++) {
            BlockerDesk six = desk(6, SINGLES);
            for (int q = 0; q < 6; q++) {
                six.weight(q, q + 2);
                six.kind(q, q % 5);
            }
            due(six.drop(p, 0), 5);
            setsAre(six, 1, 2, 4, 8, 16);
            due(six.weight(5, 1), BAD);
            for (int q = 0; q < 5; q++) {
                int was = q < p ? q : q + 1;
                due(six.of(q, 1), was + 2);
                due(six.of(q, 0), was % 5);
            }
        }
        BlockerDesk mixed = desk(6, 21, 42);
        due(mixed.drop(2, 1), 2);
        setsAre(mixed, 9, 22);
        due(mixed.drop(0, 1), 2);
        setsAre(mixed, 4, 11);
    }

    private static void doubledOnes() {
        begin("DOUBLED: a new one, n, of the same KIND and WEIGHT, comes");
        BlockerDesk x = desk(1, 1);
        x.kind(0, TWIN);
        x.weight(0, 0);
        for (int n = 2; n <= 6; n++) {
            due(x.doubled(n - 2), n);
            due(x.count(0), n);
        }
        kindsAre(x, 3, 3, 3, 3, 3, 3);
        weightsAre(x, 0, 0, 0, 0, 0, 0);
        setsAre(x, SINGLES);
        due(x.doubled(0), FULL);
        begin("DOUBLED: for each set with the one that set with the other in its place comes besides");
        BlockerDesk y = desk(5, 3, 12, 16);
        due(y.doubled(4), 4);
        setsAre(y, 3, 12, 16, 32);
        BlockerDesk z = desk(5, 31);
        due(z.doubled(2), 2);
        setsAre(z, 31, 59);
        BlockerDesk apart = desk(3, 3);
        due(apart.doubled(2), 1);
        setsAre(apart, 3);
        BlockerDesk none = desk(3, 0);
        due(none.doubled(1), 1);
        setsAre(none, 0);
    }

    private static void coversAndBlocker() {
        begin("A COVER: a set that has a POINT in common with each of THE FAMILY");
        due(desk(3).is(0, 1), 1);
        due(desk(3, 0).is(0, 1), 0);
        due(desk(3, 0).is(7, 1), 0);
        due(desk(3, 7).is(0, 1), 0);
        due(desk(3, 7).is(4, 1), 1);
        due(desk(6, SINGLES).is(63, 1), 1);
        due(desk(6, SINGLES).is(31, 1), 0);
        begin("THE BLOCKER of a FAMILY of no sets: the empty set alone; of one that has the empty set: none");
        for (int n = 1; n <= 6; n++) {
            BlockerDesk x = desk(n);
            blockerIs(x, 0);
            due(x.turn(), 1);
            setsAre(x, 0);
            blockerIs(x);
            due(x.turn(), 0);
            setsAre(x);
        }
        begin("THE BLOCKER: INNER ones of all COVERS");
        blockerIs(desk(1, 1), 1);
        blockerIs(desk(6, SINGLES), 63);
        blockerIs(desk(6, 63), SINGLES);
        BlockerDesk x = desk(6);
        addSized(x, 3);
        due(x.turn(), 15);
        due(x.count(4), 4);
        due(x.count(5), 4);
        due(x.turn(), 20);
        addSized(x, 2);
        due(x.turn(), 6);
        due(x.count(4), 5);
    }

    private static void minors() {
        begin("MINOR: of all sets without a POINT of D, less their POINTS in C, INNER ones");
        BlockerDesk x = desk(6, 7, 56, 33, 18, 12);
        minorIs(x, 0, 0, 7, 12, 18, 33, 56);
        minorIs(x, 63, 0);
        minorIs(x, 0, 63, 0);
        minorIs(x, 31, 32);
        minorIs(x, 30, 33, 0);
        minorIs(x, 32, 4, 3, 8, 18);
        minorIs(x, 0, 32, 1, 12, 18, 24);
        begin("MINOR of no sets, of the empty set alone");
        minorIs(desk(3), 0, 0);
        minorIs(desk(3), 0, 7);
        minorIs(desk(3, 0), 7, 0, 0);
        minorIs(desk(3, 0), 0, 7, 0);
        minorIs(desk(3, 0), 1, 6, 0);
        begin("minor: BAD: a POINT in common");
        for (int p = 0; p < 6; p++) {
            due(x.minor(1 << p, 1 << p, -1), BAD);
            due(x.minor(63, 1 << p, -1), BAD);
            due(x.minor(63 - (1 << p), 1 << p, -1) >= 0 ? 1 : 0, 1);
        }
    }

    private static void tauAndNu() {
        begin("TAU, NU, DOUBLE NU of no sets: 0");
        for (int n = 1; n <= 6; n++) {
            due(desk(n).tau(0), 0);
            due(desk(n).tau(1), 0);
            due(desk(n).nu(1), 0);
            due(desk(n).nu(2), 0);
        }
        begin("TAU, NU: n at most");
        for (int n = 1; n <= 6; n++) {
            BlockerDesk x = desk(n);
            addSized(x, 1);
            due(x.tau(0), n);
            due(x.tau(1), (1 << n) - 1);
            due(x.nu(1), n);
        }
        begin("DOUBLE NU: one may be taken more than once; each POINT is in 2 of them at most");
        for (int n = 1; n <= 6; n++) {
            BlockerDesk x = desk(n);
            addSized(x, 1);
            due(x.nu(2), 2 * n);
            due(desk(n, (1 << n) - 1).nu(2), 2);
            due(desk(n, 1 << (n - 1)).nu(2), 2);
        }
        due(desk(4, 3, 12).nu(2), 4);
        due(desk(4, 7, 11, 13, 14).nu(1), 1);
        due(desk(4, 7, 11, 13, 14).nu(2), 2);
        due(desk(4, 3, 5, 9, 14).nu(2), 3);
        due(desk(6, 3, 5, 6, 56).nu(1), 2);
        due(desk(6, 3, 5, 6, 56).nu(2), 5);
        begin("tau(1): the first COVER with so many POINTS");
        due(desk(6, 48).tau(1), 16);
        due(desk(6, 48, 40).tau(1), 32);
        due(desk(6, 33, 18, 12).tau(1), 7);
        due(desk(6, 63).tau(1), 1);
        begin("None of these, if the empty set is in THE FAMILY");
        for (int n = 1; n <= 6; n++) {
            BlockerDesk x = desk(n, 0);
            due(x.tau(0), NOT);
            due(x.tau(1), NOT);
            due(x.nu(1), NOT);
            due(x.nu(2), NOT);
            due(x.half(), NOT);
            x.take(0);
            due(x.tau(0), 0);
            due(x.half(), 0);
        }
    }

    private static void halves() {
        begin("HALF: the least sum of numbers 0, 1, 2, those of each set 2 or more together");
        for (int n = 1; n <= 6; n++) {
            BlockerDesk x = desk(n);
            due(x.half(), 0);
            due(desk(n, 1 << (n - 1)).half(), 2);
            due(desk(n, (1 << n) - 1).half(), 2);
            addSized(x, 1);
            due(x.half(), 2 * n);
        }
        BlockerDesk pairs = desk(6);
        addSized(pairs, 2);
        due(pairs.half(), 6);
        due(desk(4, 1, 6, 10, 12).half(), 5);
        due(desk(4, 3, 5, 9, 14).half(), 4);
        due(desk(4, 7, 11, 13, 14).half(), 3);
    }

    private static void lightest() {
        begin("LIGHTEST: of like ones the first");
        due(desk(6, 63).lightest(0), 1);
        BlockerDesk x = desk(3, 6);
        for (int p = 0; p < 3; p++) {
            x.kind(p, TWIN);
            x.weight(p, 0);
        }
        due(x.lightest(0), 2);
        due(x.lightest(1), 0);
        x.weight(1, 1);
        due(x.lightest(0), 4);
        begin("LIGHTEST: the least sum, not the fewest POINTS");
        BlockerDesk y = desk(3, 5, 6);
        due(y.lightest(0), 4);
        due(y.lightest(1), 3);
        y.weight(2, 3);
        due(y.lightest(0), 3);
        due(y.lightest(1), 6);
        y.weight(2, 2);
        due(y.lightest(0), 4);
        due(y.lightest(1), 5);
        begin("LIGHTEST: of a FAMILY of no sets the empty set; NOT: there is no COVER");
        for (int n = 1; n <= 6; n++) {
            due(desk(n).lightest(0), 0);
            due(desk(n).lightest(1), 0);
            due(desk(n, 0).lightest(0), NOT);
            due(desk(n, 0).lightest(1), NOT);
        }
    }

    private static void packing() {
        begin("It PACKS, if NU is TAU, or the empty set is in it");
        for (int n = 1; n <= 6; n++) {
            due(desk(n).packs(), 1);
            due(desk(n, 0).packs(), 1);
            due(desk(n, (1 << n) - 1).packs(), 1);
            BlockerDesk x = desk(n);
            addSized(x, 1);
            due(x.packs(), 1);
            due(x.allPack(0), 1);
            due(x.allPack(1), NOT);
        }
        due(desk(3, 3, 5, 6).packs(), 0);
        due(desk(4, 3, 5, 6, 8).packs(), 0);
        due(desk(6, 3, 12, 48, 21, 42).packs(), 1);
        begin("packsDoubled: whether it PACKS, were a POINT DOUBLED");
        due(desk(5, RING).packsDoubled(0), 1);
        due(desk(3, 3, 5, 6).packsDoubled(2), 1);
        due(desk(4, 3, 5, 6).packsDoubled(3), 0);
        due(desk(4, 3, 5, 6, 9).packs(), 1);
        due(desk(4, 3, 5, 6, 9).packsDoubled(0), 0);
        due(desk(5).packsDoubled(4), 1);
        due(desk(5, 0).packsDoubled(4), 1);
        begin("ALL PACK, if each MINOR does; else the first one that does not (D by numbers, then C)");
        due(desk(3, 3, 5, 6).allPack(1), 0);
        due(desk(5, RING).allPack(1), 0);
        // 2 contracted: 0 alone and the pairs of 1, 3, 4; later 0 deleted would do as well
        due(desk(5, 5, 14, 18, 24).packs(), 1);
        due(desk(5, 5, 14, 18, 24).allPack(0), 0);
        due(desk(5, 5, 14, 18, 24).allPack(1), 4);
        due(desk(6, 35, 37, 38).allPack(1), 32);
        due(desk(4, 3, 5, 6, 9).allPack(1), 64 * 8);
        due(desk(6, 3, 5, 6, 33).allPack(1), 64 * 32);
        due(desk(1, 1).allPack(0), 1);
        due(desk(2, 3).allPack(0), 1);
    }

    private static void fans() {
        begin("FAN (k 3 or more): one POINT c, sets: c and each other one, and all others together");
        for (int n = 3; n <= 6; n++) {
            for (int c = 0; c < n; c++) {
                BlockerDesk x = desk(n);
                for (int p = 0; p < n; p++) {
                    if (p != c) {
                        x.add(1 << c | 1 << p);
                    }
                }
                due(x.bad(0), 0);
                x.add((1 << n) - 1 - (1 << c));
                due(x.bad(0), 1);
                due(x.bad(1), 0);
                due(x.packs(), 0);
            }
        }
        begin("no MINOR of fewer than three POINTS is BAD");
        for (int set = 0; set < 4; set++) {
            due(desk(1, set).bad(0), 0);
            due(desk(2, set).bad(0), 0);
            due(desk(2, set).bad(1), NOT);
        }
        due(desk(2, 1, 2).bad(0), 0);
        begin("A BAD one's POINTS are all that are neither in D nor in C, whether they are in a set or not");
        due(desk(4, 3, 5, 6).bad(1), 8);
        due(desk(5, 3, 5, 6).bad(1), 24);
        due(desk(6, 3, 5, 6).bad(1), 56);
        due(desk(6, 11 << 1, 13 << 1, 14 << 1).bad(1), 1 + 16 + 32);
        begin("The first MINOR that is one (D by numbers, then C): which, where");
        due(desk(5, 19, 21, 22, 11, 13, 14).bad(0), 1);
        due(desk(5, 19, 21, 22, 11, 13, 14).bad(1), 24);
        due(desk(4, 3, 5, 6, 8).bad(1), 64 * 8);
        due(desk(5, 3, 5, 6, 8).bad(1), 64 * 8 + 16);
        due(desk(6, 3, 5, 6, 8, 16, 32).bad(1), 64 * 56);
    }

    private static void ringsAndWheels() {
        begin("RING (k 5): five sets of two POINTS that go round all five");
        due(desk(5, RING).bad(0), 2);
        due(desk(5, RING).bad(1), 0);
        due(desk(5, 5, 20, 18, 10, 9).bad(0), 2);
        due(desk(4, 3, 6, 12, 9).bad(0), 0);
        due(desk(6, 3, 6, 12, 24, 48, 33).bad(0), 0);
        due(desk(5, 3, 6, 12, 24).bad(0), 0);
        due(desk(5, 3, 6, 12, 9, 24).bad(0), 0);
        // four pairs that go round four, the fifth POINT in none
        due(desk(5, 3, 6, 12, 9).bad(0), 0);
        due(desk(5, 6, 12, 24, 18).bad(0), 0);
        due(desk(5, 5, 12, 24, 17).bad(0), 0);
        // two rounds of three with the POINT 0 in both: FANS, when one round is gone
        due(desk(5, 3, 5, 6, 9, 17, 24).bad(0), 1);
        due(desk(5, 3, 5, 6, 9, 17, 24).bad(1), 64 * 6);
        due(desk(5, 3, 5, 6, 24, 12).bad(0), 1);
        due(desk(5, 3, 5, 6, 24, 12).bad(1), 64 * 8 + 16);
        begin("RING, WHEEL among six POINTS");
        due(desk(6, RING).bad(0), 2);
        due(desk(6, RING).bad(1), 32);
        due(desk(6, 6, 12, 24, 48, 34).bad(0), 2);
        due(desk(6, 6, 12, 24, 48, 34).bad(1), 1);
        due(desk(6, 3, 6, 12, 24, 17, 32).bad(1), 64 * 32);
        begin("WHEEL (k 5): one the BLOCKER of which (its POINTS alone) is a RING");
        due(desk(5, 11, 13, 21, 22, 26).bad(0), 3);
        due(desk(5, 11, 13, 21, 22, 26).bad(1), 0);
        due(desk(6, 11, 13, 21, 22, 26).bad(0), 3);
        due(desk(6, 11, 13, 21, 22, 26).bad(1), 32);
        due(desk(6, 43, 45, 53, 54, 58).bad(0), 3);
        due(desk(6, 43, 45, 53, 54, 58).bad(1), 32);
        due(desk(6, 11, 13, 21, 22, 26, 32).bad(0), 3);
        due(desk(6, 11, 13, 21, 22, 26, 32).bad(1), 64 * 32);
    }

    private static void shelves() {
        begin("SHELVES 0 .. 3 hold nothing (at first)");
        for (int shelf = 0; shelf < 4; shelf++) {
            BlockerDesk x = new BlockerDesk();
            due(x.count(8), 0);
            due(x.lay(shelf), -11);
            due(x.judge(shelf), -11);
            due(x.get(shelf, 0), LEAST);
            due(x.keep(shelf), 0);
            due(x.count(8), 1);
            due(x.lay(shelf), 0);
            due(x.row(shelf, -1), 1);
            due(x.count(8), 0);
            due(x.lay(shelf), -11);
            due(x.film(shelf), 1);
            due(x.count(8), 1);
        }
        begin("a ROW (0 .. 40 ints), all 0");
        BlockerDesk x = new BlockerDesk();
        for (int n : new int[] {40, 0, 1, 39}) {
            due(x.row(3, n), 1);
            due(x.count(8), 1);
            for (int i = 0; i < n; i++) {
                due(x.get(3, i), 0);
                due(x.put(3, i, LEAST + i), 1);
                due(x.get(3, i), LEAST + i);
            }
            due(x.get(3, n), LEAST);
            due(x.put(3, n, 7), -13);
            due(x.lay(3), -12);
        }
        begin("row: nothing (n -1): 1, of a SHELF that holds nothing, too");
        due(x.row(2, -1), 1);
        due(x.count(8), 1);
        due(x.row(3, -1), 1);
        due(x.row(3, -1), 1);
        due(x.count(8), 0);
        begin("a SHELF's FAMILY and ROW give way to each other");
        x.add(3);
        due(x.keep(0), 1);
        due(x.row(0, 2), 1);
        due(x.lay(0), -12);
        due(x.keep(0), 1);
        due(x.put(0, 0, 1), -12);
        due(x.film(0), 2);
        due(x.get(0, 0), 1);
        due(x.get(0, 1), 2);
        due(x.get(0, 2), LEAST);
    }

    private static void sumAndProduct() {
        begin("SUM: INNER ones of both together");
        BlockerDesk x = desk(4, 3, 12);
        x.keep(0);
        x.points(4);
        x.keep(1);
        x.add(0);
        x.keep(2);
        due(x.join(0, 0), 1);
        setsAre(x, 0);
        x.take(0);
        due(x.join(1, 0), 0);
        due(x.join(0, 0), 2);
        setsAre(x, 3, 12);
        due(x.join(1, 0), 2);
        due(x.join(2, 0), 1);
        setsAre(x, 0);
        begin("PRODUCT: of no sets none, with the empty set alone the other one");
        due(x.join(0, 1), 2);
        setsAre(x, 3, 12);
        due(x.join(2, 1), 2);
        setsAre(x, 3, 12);
        due(x.join(1, 1), 0);
        setsAre(x);
        due(x.join(0, 1), 0);
        setsAre(x);
        due(x.join(2, 1), 0);
        begin("PRODUCT: INNER ones of all that are a set of the one and a set of the other together");
        addAll(x, 1, 2, 12);
        due(x.join(0, 1), 2);
        setsAre(x, 3, 12);
        x.points(6);
        addSized(x, 3);
        x.keep(0);
        due(x.join(0, 1), 20);
        x.points(6);
        addAll(x, SINGLES);
        x.keep(0);
        due(x.join(0, 1), 6);
        x.points(6);
        addAll(x, 7, 56);
        due(x.join(0, 1), 2);
        due(x.join(0, 0), 6);
        setsAre(x, SINGLES);
        begin("by STATE, if n differs");
        for (int n = 1; n < 6; n++) {
            x.points(n);
            x.add(0);
            due(x.join(0, 0), STATE);
            due(x.join(0, 1), STATE);
            setsAre(x, 0);
        }
        begin("same: as many POINTS and the same sets");
        x.points(6);
        x.keep(0);
        x.points(5);
        due(x.same(0, 0), 0);
        x.add(0);
        due(x.same(0, 1), 0);
        x.points(6);
        due(x.same(0, 0), 1);
        due(x.same(0, 1), 0);
        x.add(0);
        due(x.same(0, 0), 0);
        due(x.same(0, 1), 1);
        begin("join() keeps POINTS");
        BlockerDesk y = desk(3, 1);
        y.keep(0);
        y.points(3);
        y.kind(1, SOFT);
        y.weight(2, 0);
        due(y.join(0, 0), 1);
        kindsAre(y, 0, SOFT, 0);
        weightsAre(y, 1, 1, 0);
    }

    private static void judged() {
        begin("JUDGED: the first place at which what is told is not of THE BLOCKER, or was told ahead");
        BlockerDesk x = desk(4, 3, 12);
        x.film(0);
        due(x.judge(0), NOT);
        for (int i = 0; i < 4; i++) {
            int told = x.get(0, i);
            for (int other : new int[] {0, 15, 3, 16, 64 + told, told - 64, -1, LEAST, LEAST + told, GREATEST}) {
                x.put(0, i, other);
                due(x.judge(0), i);
            }
            x.put(0, i, told);
        }
        x.put(0, 3, 5);
        due(x.judge(0), 3);
        x.put(0, 1, 5);
        due(x.judge(0), 1);
        begin("JUDGED: all of THE BLOCKER, then one more");
        x.row(1, 5);
        int[] blocker = {10, 9, 6, 5, 10};
        for (int i = 0; i < 5; i++) {
            x.put(1, i, blocker[i]);
        }
        due(x.judge(1), 4);
        begin("-2: it tells all of THE BLOCKER; 100 and how many it tells, if these are fewer");
        for (int size = 0; size < 5; size++) {
            x.row(1, size);
            for (int i = 0; i < size; i++) {
                x.put(1, i, blocker[i]);
            }
            due(x.judge(1), size < 4 ? 100 + size : -2);
        }
        x.points(4);
        x.row(1, 0);
        due(x.judge(1), 100);
        x.row(1, 1);
        due(x.judge(1), -2);
        x.row(1, 2);
        due(x.judge(1), 1);
        x.add(0);
        due(x.judge(1), 0);
        x.row(1, 0);
        due(x.judge(1), -2);
        BlockerDesk singles = desk(6, SINGLES);
        singles.row(1, 0);
        due(singles.judge(1), 100);
        singles.row(1, 1);
        singles.put(1, 0, 63);
        due(singles.judge(1), -2);
        begin("a ROW of all twenty sets of THE BLOCKER, the most there are");
        BlockerDesk y = desk(6);
        addSized(y, 4);
        due(y.film(3), 20);
        due(y.get(3, 19), 56);
        due(y.get(3, 20), LEAST);
        due(y.judge(3), -2);
        // without the set 15 two POINTS outside it are a COVER, and three with both of them none of THE BLOCKER
        y.take(15);
        due(y.blocker(0), 7);
        due(y.blocker(-1), 17);
        due(y.judge(3), 16);
    }

    private static void whatLayBrings() {
        begin("keep() of THE FAMILY takes no KINDS, WEIGHTS");
        BlockerDesk x = desk(2, 3);
        x.kind(0, CORE);
        x.weight(1, 9);
        due(x.keep(0), 1);
        x.points(2);
        due(x.lay(0), 1);
        kindsAre(x, 0, 0);
        weightsAre(x, 1, 1);
        begin("lay(): POINTS that lack come behind the others as at first");
        x.points(6);
        x.add(48);
        x.keep(1);
        x.lay(0);
        x.kind(1, HARD);
        x.weight(1, 0);
        due(x.lay(1), 1);
        kindsAre(x, 0, HARD, 0, 0, 0, 0);
        weightsAre(x, 1, 0, 1, 1, 1, 1);
        setsAre(x, 48);
        BlockerDesk first = new BlockerDesk();
        first.doubled(0);
        first.doubled(0);
        first.keep(0);
        first.back();
        first.back();
        due(first.lay(0), 0);
        kindsAre(first, 0, 0, 0, 0, 0, 0);
        weightsAre(first, 1, 1, 1, 1, 1, 1);
        begin("lay(): the last ones that are too many go");
        for (int p = 0; p < 6; p++) {
            x.kind(p, TWIN);
            x.weight(p, p + 3);
        }
        due(x.lay(0), 1);
        kindsAre(x, TWIN, TWIN);
        weightsAre(x, 3, 4);
        setsAre(x, 3);
        due(x.lay(1), 1);
        kindsAre(x, TWIN, TWIN, 0, 0, 0, 0);
        weightsAre(x, 3, 4, 1, 1, 1, 1);
        due(x.back(), 9);
        due(x.back(), 8);
        weightsAre(x, 3, 4, 5, 6, 7, 8);
        kindsAre(x, TWIN, TWIN, TWIN, TWIN, TWIN, TWIN);
        begin("a POINT that comes by doubled() after others went is as the one that is DOUBLED");
        x.lay(0);
        x.doubled(0);
        weightsAre(x, 3, 4, 3);
        begin("a SHELF's FAMILY stays as it was when THE FAMILY changes");
        x.lay(0);
        x.add(1);
        due(x.lay(0), 1);
        setsAre(x, 3);
    }
}
