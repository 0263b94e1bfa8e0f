import java.util.ArrayDeque;
import java.util.ArrayList;
import java.util.Arrays;
import java.util.Collection;
import java.util.Deque;
import java.util.List;
import java.util.TreeSet;

/** The document's words done as literally as may be, slowly, with the Java library: to compare with. */
final class NaiveDesk {
    static final int BAD = -1, NOT = -2, FULL = -3, STATE = -5, VOID = Integer.MIN_VALUE;
    private static final int[] ABOVE = {-1, 0, 1, 0, 2};

    /** What a STEP and THE IMAGE hold. */
    private record Whole(List<Integer> kinds, List<Integer> weights, TreeSet<Integer> family) {
        Whole twin() {
            return new Whole(new ArrayList<>(kinds), new ArrayList<>(weights), new TreeSet<>(family));
        }
    }

    private record Laid(int n, TreeSet<Integer> family, int[] row) { }

    private Whole now = fresh(4);
    private Whole image = null;
    private final Deque<Whole> steps = new ArrayDeque<>();
    private final Laid[] shelves = new Laid[4];
    private String tape = "";
    private List<Integer> ran = new ArrayList<>();

    private static Whole fresh(int n) {
        List<Integer> kinds = new ArrayList<>();
        List<Integer> weights = new ArrayList<>();
        for (int p = 0; p < n; p++) {
            kinds.add(0);
            weights.add(1);
        }
        return new Whole(kinds, weights, new TreeSet<>());
    }

    private int n() {
        return now.kinds.size();
    }

    private boolean point(int p) {
        return p >= 0 && p < n();
    }

    private boolean isOne(int set) {
        return set >= 0 && set < Math.pow(2, n());
    }

    private static boolean within(int a, int b) {
        for (int p = 0; p < 31; p++) {
            if ((a >> p) % 2 == 1 && (b >> p) % 2 == 0) {
                return false;
            }
        }
        return true;
    }

    private static TreeSet<Integer> inner(Collection<Integer> sets) {
        TreeSet<Integer> left = new TreeSet<>();
        for (int a : sets) {
            boolean ok = true;
            for (int b : sets) {
                ok &= a == b || !within(b, a);
            }
            if (ok) {
                left.add(a);
            }
        }
        return left;
    }

    private static TreeSet<Integer> covers(Collection<Integer> family, int points) {
        TreeSet<Integer> all = new TreeSet<>();
        for (int s = 0; s < 64; s++) {
            boolean ok = within(s, points);
            for (int f : family) {
                ok &= (s & f) != 0;
            }
            if (ok) {
                all.add(s);
            }
        }
        return all;
    }

    private TreeSet<Integer> covers() {
        return covers(now.family, (1 << n()) - 1);
    }

    private TreeSet<Integer> blocker() {
        return inner(covers());
    }

    private void settle(Whole was) {
        if (!was.equals(now)) {
            steps.addLast(was);
            if (steps.size() > 10) {
                steps.removeFirst();
            }
        }
    }

    int points(int n) {
        if (n < 1 || n > 6) {
            return BAD;
        }
        int was = n();
        now = fresh(n);
        steps.clear();
        return was;
    }

    int weight(int point, int v) {
        if (!point(point) || v < 0 || v > 9) {
            return BAD;
        }
        Whole was = now.twin();
        int answer = now.weights.set(point, v);
        settle(was);
        return answer;
    }

    int kind(int point, int k) {
        if (!point(point) || k < 0 || k > 4) {
            return BAD;
        }
        Whole was = now.twin();
        int answer = now.kinds.set(point, k);
        settle(was);
        return answer;
    }

    private int weighs(int kind, int w) {
        switch (kind) {
            case 0: case 1: return 2 * w + 1;
            case 2: return 3 * weighs(1, w) - 2;
            case 3: return (int) Math.floor(weighs(0, w) / 2.0);
            default: return weighs(2, w) + 1;
        }
    }

    int of(int point, int what) {
        if (!point(point) || what < 0 || what > 4) {
            return BAD;
        }
        int sets = 0;
        int together = 0;
        for (int f : now.family) {
            if ((f >> point) % 2 == 1) {
                sets++;
                together |= f - (1 << point);
            }
        }
        int[] answers = {now.kinds.get(point), now.weights.get(point),
            weighs(now.kinds.get(point), now.weights.get(point)), sets, together};
        return answers[what];
    }

    int add(int set) {
        if (!isOne(set)) {
            return BAD;
        }
        for (int f : now.family) {
            if (within(f, set)) {
                return 0;
            }
        }
        Whole was = now.twin();
        now.family.removeIf(f -> within(set, f));
        now.family.add(set);
        settle(was);
        return 1;
    }

    int take(int set) {
        if (!isOne(set)) {
            return BAD;
        }
        if (!now.family.contains(set)) {
            return NOT;
        }
        Whole was = now.twin();
        now.family.remove(set);
        settle(was);
        return now.family.size();
    }

    private int renumber(int set, int gone) {
        int next = 0;
        for (int p = 0; p < 6; p++) {
            if ((set >> p) % 2 == 1) {
                next += 1 << (p > gone ? p - 1 : p);
            }
        }
        return next;
    }

    int drop(int point, int how) {
        if (!point(point) || how < 0 || how > 1) {
            return BAD;
        }
        if (n() == 1) {
            return STATE;
        }
        Whole was = now.twin();
        TreeSet<Integer> left = new TreeSet<>();
        for (int f : was.family) {
            boolean has = (f >> point) % 2 == 1;
            if (!has || how == 1) {
                left.add(renumber(has ? f - (1 << point) : f, point));
            }
        }
        now.family.clear();
        now.family.addAll(inner(left));
        now.kinds.remove(point);
        now.weights.remove(point);
        settle(was);
        return now.family.size();
    }

    private TreeSet<Integer> twice(int point) {
        TreeSet<Integer> all = new TreeSet<>(now.family);
        for (int f : now.family) {
            if ((f >> point) % 2 == 1) {
                all.add(f - (1 << point) + (1 << n()));
            }
        }
        return all;
    }

    int doubled(int point) {
        if (!point(point)) {
            return BAD;
        }
        if (n() == 6) {
            return FULL;
        }
        Whole was = now.twin();
        now = new Whole(now.kinds, now.weights, twice(point));
        now.kinds.add(now.kinds.get(point));
        now.weights.add(now.weights.get(point));
        settle(was);
        return now.family.size();
    }

    private int become(TreeSet<Integer> family) {
        Whole was = now.twin();
        now = new Whole(now.kinds, now.weights, family);
        settle(was);
        return family.size();
    }

    int turn() {
        return become(blocker());
    }

    private static int ith(Collection<Integer> sets, int i) {
        if (i < -1) {
            return BAD;
        }
        if (i == -1) {
            return sets.size();
        }
        return i < sets.size() ? new ArrayList<>(sets).get(i) : NOT;
    }

    int set(int i) {
        return ith(now.family, i);
    }

    int blocker(int i) {
        return ith(blocker(), i);
    }

    int is(int set, int what) {
        if (!isOne(set) || what < 0 || what > 2) {
            return BAD;
        }
        boolean yes = what == 0 ? now.family.contains(set) : covers().contains(set);
        if (what == 2) {
            yes = false;
            for (int f : now.family) {
                yes |= within(f, set);
            }
        }
        return yes ? 1 : 0;
    }

    private TreeSet<Integer> minor(int d, int c) {
        TreeSet<Integer> all = new TreeSet<>();
        for (int f : now.family) {
            if ((f & d) == 0) {
                all.add(f & ~c);
            }
        }
        return inner(all);
    }

    int minor(int d, int c, int i) {
        return isOne(d) && isOne(c) && (d & c) == 0 ? ith(minor(d, c), i) : BAD;
    }

    private static int tauOf(Collection<Integer> family) {
        int least = 99;
        for (int s : covers(family, 63)) {
            least = Math.min(least, Integer.bitCount(s));
        }
        return least;
    }

    /** Takes or leaves set by set; room tells how often each POINT may still be taken. */
    private static int most(List<Integer> family, int from, int[] room) {
        if (from == family.size()) {
            return 0;
        }
        int best = most(family, from + 1, room);
        int[] left = room.clone();
        for (int p = 0; p < 6; p++) {
            left[p] -= (family.get(from) >> p) % 2;
            if (left[p] < 0) {
                return best;
            }
        }
        return Math.max(best, 1 + most(family, from, left));
    }

    private static int nuOf(Collection<Integer> family, int times) {
        int[] room = new int[6];
        Arrays.fill(room, times);
        return most(new ArrayList<>(family), 0, room);
    }

    int tau(int what) {
        if (what < 0 || what > 1) {
            return BAD;
        }
        if (now.family.contains(0)) {
            return NOT;
        }
        int tau = tauOf(now.family);
        for (int s : covers()) {
            if (what == 1 && Integer.bitCount(s) == tau) {
                return s;
            }
        }
        return tau;
    }

    int nu(int times) {
        if (times < 1 || times > 2) {
            return BAD;
        }
        return now.family.contains(0) ? NOT : nuOf(now.family, times);
    }

    int half() {
        if (now.family.contains(0)) {
            return NOT;
        }
        int best = 99;
        for (int code = 0; code < 729; code++) {
            int sum = 0;
            int[] given = new int[6];
            for (int p = 0, rest = code; p < 6; p++, rest /= 3) {
                given[p] = rest % 3;
                sum += given[p];
            }
            boolean ok = true;
            for (int f : now.family) {
                int together = 0;
                for (int p = 0; p < 6; p++) {
                    together += (f >> p) % 2 * given[p];
                }
                ok &= together >= 2;
            }
            best = ok ? Math.min(best, sum) : best;
        }
        return best;
    }

    int lightest(int what) {
        if (what < 0 || what > 1) {
            return BAD;
        }
        int[] best = {NOT, NOT};
        for (int s : covers()) {
            int sum = 0;
            for (int p = 0; p < n(); p++) {
                sum += (s >> p) % 2 == 1 ? of(p, 2) : 0;
            }
            if (best[0] == NOT || sum < best[1]) {
                best = new int[] {s, sum};
            }
        }
        return best[what];
    }

    private static boolean packs(Collection<Integer> family) {
        return family.contains(0) || tauOf(family) == nuOf(family, 1);
    }

    int packs() {
        return packs(now.family) ? 1 : 0;
    }

    int allPack(int what) {
        if (what < 0 || what > 1) {
            return BAD;
        }
        for (int d = 0; d < 1 << n(); d++) {
            for (int c = 0; c < 1 << n(); c++) {
                if ((d & c) == 0 && !packs(minor(d, c))) {
                    return what == 0 ? 0 : 64 * d + c;
                }
            }
        }
        return what == 0 ? 1 : NOT;
    }

    private static boolean ring(Collection<Integer> family, List<Integer> points) {
        if (points.size() != 5 || family.size() != 5) {
            return false;
        }
        return rounds(family, points, new ArrayList<>());
    }

    /** Looks through all orders of the points for one whose neighbours are the sets. */
    private static boolean rounds(Collection<Integer> family, List<Integer> points, List<Integer> way) {
        if (way.size() == 5) {
            TreeSet<Integer> pairs = new TreeSet<>();
            for (int i = 0; i < 5; i++) {
                pairs.add((1 << way.get(i)) + (1 << way.get((i + 1) % 5)));
            }
            return pairs.equals(family);
        }
        for (int p : points) {
            if (!way.contains(p)) {
                List<Integer> further = new ArrayList<>(way);
                further.add(p);
                if (rounds(family, points, further)) {
                    return true;
                }
            }
        }
        return false;
    }

    private static boolean fan(Collection<Integer> family, List<Integer> points) {
        for (int c : points) {
            TreeSet<Integer> wanted = new TreeSet<>();
            int others = 0;
            for (int p : points) {
                if (p != c) {
                    others += 1 << p;
                    wanted.add((1 << c) + (1 << p));
                }
            }
            wanted.add(others);
            if (points.size() >= 3 && wanted.equals(family)) {
                return true;
            }
        }
        return false;
    }

    private int sort(int d, int c) {
        List<Integer> points = new ArrayList<>();
        int bits = 0;
        for (int p = 0; p < n(); p++) {
            if (((d | c) >> p) % 2 == 0) {
                points.add(p);
                bits += 1 << p;
            }
        }
        TreeSet<Integer> minor = minor(d, c);
        if (fan(minor, points)) {
            return 1;
        }
        if (ring(minor, points)) {
            return 2;
        }
        return points.size() == 5 && ring(inner(covers(minor, bits)), points) ? 3 : 0;
    }

    int bad(int what) {
        if (what < 0 || what > 1) {
            return BAD;
        }
        for (int d = 0; d < 1 << n(); d++) {
            for (int c = 0; c < 1 << n(); c++) {
                if ((d & c) == 0 && sort(d, c) != 0) {
                    return what == 0 ? sort(d, c) : 64 * d + c;
                }
            }
        }
        return what == 0 ? 0 : NOT;
    }

    int packsDoubled(int point) {
        if (!point(point)) {
            return BAD;
        }
        if (n() == 6) {
            return FULL;
        }
        return packs(twice(point)) ? 1 : 0;
    }

    private static boolean shelf(int s) {
        return s >= 0 && s < 4;
    }

    private int refused(int shelf, boolean row) {
        if (!shelf(shelf)) {
            return BAD;
        }
        if (shelves[shelf] == null) {
            return -11;
        }
        return (shelves[shelf].row != null) == row ? 0 : -12;
    }

    int keep(int shelf) {
        if (!shelf(shelf)) {
            return BAD;
        }
        shelves[shelf] = new Laid(n(), new TreeSet<>(now.family), null);
        return now.family.size();
    }

    int lay(int shelf) {
        int no = refused(shelf, false);
        if (no != 0) {
            return no;
        }
        Whole was = now.twin();
        now = new Whole(now.kinds, now.weights, new TreeSet<>(shelves[shelf].family));
        while (n() > shelves[shelf].n) {
            now.kinds.remove(n() - 1);
            now.weights.remove(now.weights.size() - 1);
        }
        while (n() < shelves[shelf].n) {
            now.kinds.add(0);
            now.weights.add(1);
        }
        settle(was);
        return now.family.size();
    }

    int join(int shelf, int how) {
        int no = how < 0 || how > 1 ? BAD : refused(shelf, false);
        if (no != 0) {
            return no;
        }
        if (shelves[shelf].n != n()) {
            return STATE;
        }
        TreeSet<Integer> all = new TreeSet<>();
        if (how == 0) {
            all.addAll(now.family);
            all.addAll(shelves[shelf].family);
        } else {
            for (int a : now.family) {
                for (int b : shelves[shelf].family) {
                    all.add(a | b);
                }
            }
        }
        return become(inner(all));
    }

    int same(int shelf, int what) {
        int no = what < 0 || what > 1 ? BAD : refused(shelf, false);
        if (no != 0) {
            return no;
        }
        boolean like = shelves[shelf].family.equals(what == 0 ? now.family : blocker());
        return like && shelves[shelf].n == n() ? 1 : 0;
    }

    int row(int shelf, int n) {
        if (!shelf(shelf) || n > 40) {
            return BAD;
        }
        if (n < -1) {
            return -14;
        }
        shelves[shelf] = n == -1 ? null : new Laid(0, null, new int[n]);
        return 1;
    }

    int put(int shelf, int i, int v) {
        int no = refused(shelf, true);
        if (no != 0) {
            return no;
        }
        if (i < 0 || i >= shelves[shelf].row.length) {
            return -13;
        }
        shelves[shelf].row[i] = v;
        return 1;
    }

    int get(int shelf, int i) {
        if (refused(shelf, true) != 0 || i < 0 || i >= shelves[shelf].row.length) {
            return VOID;
        }
        return shelves[shelf].row[i];
    }

    int film(int shelf) {
        if (!shelf(shelf)) {
            return BAD;
        }
        int[] row = new int[blocker().size()];
        for (int i = 0; i < row.length; i++) {
            row[i] = blocker(i);
        }
        shelves[shelf] = new Laid(0, null, row);
        return row.length;
    }

    int judge(int shelf) {
        int no = refused(shelf, true);
        if (no != 0) {
            return no;
        }
        int[] row = shelves[shelf].row;
        TreeSet<Integer> told = new TreeSet<>();
        for (int i = 0; i < row.length; i++) {
            if (!blocker().contains(row[i]) || !told.add(row[i])) {
                return i;
            }
        }
        return told.size() == blocker().size() ? -2 : 100 + told.size();
    }

    int back() {
        if (steps.isEmpty()) {
            return STATE;
        }
        now = steps.removeLast();
        return steps.size();
    }

    int feed(int letter) {
        if (letter < 32 || letter > 126) {
            return BAD;
        }
        if (tape.length() == 80) {
            return FULL;
        }
        tape += (char) letter;
        return tape.length();
    }

    int wipe() {
        int had = tape.length();
        tape = "";
        return had;
    }

    int read() {
        String text = tape;
        tape = "";
        List<int[]> acts = new ArrayList<>();
        int fault = NaiveText.parse(text, acts);
        if (fault >= 0) {
            return -100 - fault;
        }
        int done = 0;
        for (int[] a : acts) {
            int answer;
            switch (a[0]) {
                case 0: answer = add(a[1]); break;
                case 1: answer = take(a[1]); break;
                case 2: answer = drop(a[1], a[2]); break;
                case 3: answer = doubled(a[1]); break;
                case 4: answer = weight(a[1], a[2]); break;
                case 5: answer = kind(a[1], a[2]); break;
                case 6: answer = points(a[1]); break;
                default: answer = turn();
            }
            if (answer < 0) {
                return -200 - done;
            }
            done++;
        }
        return done;
    }

    int say(int i) {
        List<String> parts = new ArrayList<>();
        for (int f : now.family) {
            StringBuilder part = new StringBuilder(f == 0 ? "-" : "");
            for (int p = 0; p < 6; p++) {
                part.append((f >> p) % 2 == 1 ? String.valueOf(p) : "");
            }
            parts.add(part.toString());
        }
        String text = parts.isEmpty() ? "." : String.join(",", parts);
        if (i < -1) {
            return BAD;
        }
        if (i == -1) {
            return text.length();
        }
        return i < text.length() ? text.charAt(i) : NOT;
    }

    private int asks(int kind, int p, int x) {
        switch (kind) {
            case 0: ran.add(10); return x + p;
            case 1: ran.add(20); return asks(0, p, x) * 2;
            case 3: ran.add(40); return asks(0, p, x + 1);
            default: return asks(ABOVE[kind], p, x);
        }
    }

    private int tells(int kind, int p, int x) {
        switch (kind) {
            case -1: ran.add(1); return x + 5;
            case 2: ran.add(30); return tells(1, p, x) ^ 3;
            case 4: ran.add(50); return tells(2, p, x) * now.weights.get(p);
            default: return tells(ABOVE[kind], p, x);
        }
    }

    private int says(int kind, int p, int x) {
        switch (kind) {
            case 0: {
                ran.add(11);
                int own = now.kinds.get(p);
                int asked = asks(own, p, x);
                return asked - tells(own, p, 2);
            }
            case 2: ran.add(31); return -says(1, p, x);
            default: return says(ABOVE[kind], p, x);
        }
    }

    int act(int point, int act, int x) {
        if (!point(point) || act < 0 || act > 2) {
            return 0;
        }
        ran = new ArrayList<>();
        int own = now.kinds.get(point);
        return act == 0 ? asks(own, point, x) : act == 1 ? says(own, point, x) : tells(own, point, x);
    }

    int trace(int i) {
        return i >= 0 && i < ran.size() && i < 24 ? ran.get(i) : NOT;
    }

    int taken(int point, int k) {
        if (!point(point) || k < 0 || k > 4) {
            return BAD;
        }
        for (int kind = now.kinds.get(point); kind >= 0; kind = ABOVE[kind]) {
            if (kind == k) {
                return now.weights.get(point);
            }
        }
        return STATE;
    }

    int image() {
        image = now.twin();
        return now.family.size();
    }

    int undo() {
        if (image == null) {
            return STATE;
        }
        now = image.twin();
        steps.clear();
        return now.family.size();
    }

    int count(int what) {
        int some = 0;
        int all = (1 << n()) - 1;
        int least = 99;
        int greatest = -99;
        for (int f : now.family) {
            some |= f;
            all &= f;
            least = Math.min(least, Integer.bitCount(f));
            greatest = Math.max(greatest, Integer.bitCount(f));
        }
        int held = 0;
        for (Laid laid : shelves) {
            held += laid == null ? 0 : 1;
        }
        boolean none = now.family.isEmpty();
        int[] answers = {n(), now.family.size(), some, all, none ? NOT : least, none ? NOT : greatest,
            steps.size(), tape.length(), held};
        return what < 0 || what > 8 ? BAD : answers[what];
    }
}
