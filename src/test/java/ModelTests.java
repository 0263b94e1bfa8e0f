import java.lang.reflect.Method;
import java.util.HashMap;
import java.util.Map;
import java.util.Random;

/** Long runs of calls on the program and on the naive desk: each answer must be the same. */
public final class ModelTests {
    /** Each call with what its numbers are: p point, w weight, k kind, s set, i place, q small what, h shelf, x any. */
    private static final String[] CALLS = {
        "points n", "weight p w", "kind p k", "of p q", "add s", "add s", "add s", "add s", "add s", "add s",
        "take m", "drop p o", "doubled p", "turn", "set i", "blocker i", "is s q", "minor s s i", "tau q",
        "nu q", "half", "lightest q", "packs", "allPack q", "bad q", "packsDoubled p", "keep h", "lay h",
        "join h o", "same h q", "row h r", "put h i m", "put h i m", "get h i", "film h", "judge h", "back",
        "feed x", "wipe", "read", "say i", "act p q x", "trace i", "taken p k", "image", "undo", "count c"
    };
    private static final String[] ACTS = {
        "add 01", "add 12", "add 02", "add 345", "add -", "add 0", "add 7", "take 01", "take 12", "drop 0 0",
        "drop 1 1", "drop 9 1", "double 0", "double 2", "weigh 0 9", "weigh 1 0", "kind 0 4", "kind 1 3",
        "kind 2 2", "kind 3 7", "points 6", "points 3", "points 0", "turn", "add 0246", "add 135", "turn"
    };

    private final Random random;
    private final BlockerDesk desk = new BlockerDesk();
    private final NaiveDesk naive = new NaiveDesk();
    private final StringBuilder story = new StringBuilder();
    private int wrong = 0;
    private static final Map<String, Method> FACE = new HashMap<>();
    private static final Map<String, Method> NAIVE = new HashMap<>();

    private ModelTests(long seed) {
        random = new Random(seed);
    }

    public static void main(String[] args) throws Exception {
        for (Method m : BlockerDesk.class.getMethods()) {
            FACE.put(m.getName() + m.getParameterCount(), m);
        }
        for (Method m : NaiveDesk.class.getDeclaredMethods()) {
            if (FACE.containsKey(m.getName() + m.getParameterCount()) && m.getReturnType() == int.class) {
                NAIVE.put(m.getName() + m.getParameterCount(), m);
            }
        }
        int wrong = 0;
        for (int seed = 0; seed < 1500 && wrong == 0; seed++) {
            ModelTests run = new ModelTests(seed);
            run.play(seed % 5);
            wrong += run.wrong;
            if (run.wrong != 0) {
                System.out.println("seed " + seed + ":" + run.story);
            }
        }
        System.out.println(wrong == 0 ? "model: all answers alike" : "model: " + wrong + " answers differ");
        if (wrong != 0) {
            System.exit(1);
        }
    }

    private void play(int sort) throws Exception {
        both("points", sort == 0 ? 4 : 2 + sort);
        for (int call = 0; call < 120 && wrong == 0; call++) {
            if (random.nextInt(12) == 0) {
                feedText();
                both("read");
            } else if (random.nextInt(40) == 0) {
                badFamily();
            } else {
                String[] words = CALLS[random.nextInt(CALLS.length)].split(" ");
                if ((words[0].equals("points") || words[0].equals("undo")) && random.nextInt(4) != 0) {
                    continue;
                }
                Object[] numbers = new Object[words.length - 1];
                for (int i = 0; i < numbers.length; i++) {
                    numbers[i] = number(words[i + 1].charAt(0));
                }
                both(words[0], numbers);
            }
            if (random.nextInt(6) == 0) {
                compareAll();
            }
        }
        compareAll();
    }

    /** Random sets are seldom FANS, RINGS, WHEELS: these are built, with points that get lost again. */
    private void badFamily() throws Exception {
        both("points", 5 + random.nextInt(2));
        int[] way = {0, 1, 2, 3, 4};
        for (int i = 4; i > 0; i--) {
            int j = random.nextInt(i + 1);
            int t = way[i];
            way[i] = way[j];
            way[j] = t;
        }
        boolean fan = random.nextBoolean();
        int others = 0;
        for (int i = 0; i < 5; i++) {
            int next = fan ? way[0] : way[(i + 1) % 5];
            if (next != way[i]) {
                both("add", 1 << way[i] | 1 << next);
                others |= 1 << way[i];
            }
        }
        if (fan) {
            both("add", others);
        }
        if (random.nextBoolean()) {
            both("turn");
        }
        if (random.nextBoolean()) {
            both("doubled", random.nextInt(5));
        }
        both("bad", 0);
        both("bad", 1);
        both("allPack", 1);
    }

    private int number(char sort) {
        switch (sort) {
            case 'n': return 1 + random.nextInt(6) + (random.nextInt(9) == 0 ? random.nextInt(9) - 4 : 0);
            case 'p': return random.nextInt(8) - 1;
            case 'w': return random.nextInt(12) - 1;
            case 'k': return random.nextInt(7) - 1;
            case 'o': return random.nextInt(12) == 0 ? random.nextInt(5) - 2 : random.nextInt(2);
            case 'q': return random.nextInt(9) == 0 ? random.nextInt(9) - 3 : random.nextInt(3);
            case 's': return aSet();
            case 'm': return random.nextInt(3) == 0 || desk.set(-1) == 0 ? aSet()
                : desk.set(random.nextInt(desk.set(-1)));
            case 'i': return random.nextInt(9) - 2;
            case 'h': return random.nextInt(12) == 0 ? random.nextInt(9) - 3 : random.nextInt(4);
            case 'r': return random.nextInt(4) == 0 ? random.nextInt(50) - 4 : random.nextInt(4) - 1;
            case 'c': return random.nextInt(11) - 1;
            default: return random.nextInt(3) == 0 ? random.nextInt() : random.nextInt(140);
        }
    }

    private int aSet() {
        int all = 1 << desk.count(0);
        if (random.nextInt(20) == 0) {
            return new int[] {-1, all, all + 3, Integer.MIN_VALUE, Integer.MAX_VALUE, 0}[random.nextInt(6)];
        }
        int some = random.nextInt(all);
        return random.nextInt(3) == 0 ? some & random.nextInt(all) : some;
    }

    private void feedText() throws Exception {
        StringBuilder text = new StringBuilder();
        int acts = 1 + random.nextInt(5);
        for (int i = 0; i < acts; i++) {
            text.append(i == 0 ? "" : ";").append(ACTS[random.nextInt(ACTS.length)]);
        }
        if (random.nextInt(3) == 0) {
            int at = random.nextInt(text.length());
            int how = random.nextInt(4);
            if (how == 0) {
                text.deleteCharAt(at);
            } else if (how == 1) {
                text.setLength(at);
            } else {
                char letter = "0123456789 -;,.adxtZ".charAt(random.nextInt(20));
                text.insert(at, letter);
                if (how == 2) {
                    text.deleteCharAt(at + 1);
                }
            }
        }
        for (int i = 0; i < text.length(); i++) {
            both("feed", (int) text.charAt(i));
        }
    }

    private void compareAll() throws Exception {
        for (int what = 0; what < 9; what++) {
            both("count", what);
        }
        for (int i = -1; i < 21; i++) {
            both("set", i);
            both("blocker", i);
        }
        for (int p = 0; p < 6; p++) {
            for (int what = 0; what < 5; what++) {
                both("of", p, what);
                both("taken", p, what);
            }
        }
        for (int shelf = 0; shelf < 4; shelf++) {
            both("same", shelf, 0);
            both("judge", shelf);
            for (int i = 0; i < 41; i++) {
                both("get", shelf, i);
            }
        }
        for (int i = -1; i < 81; i++) {
            both("say", i);
        }
        for (int i = 0; i < 10; i++) {
            both("trace", i);
        }
    }

    private void both(String name, Object... numbers) throws Exception {
        Object got = FACE.get(name + numbers.length).invoke(desk, numbers);
        Object due = NAIVE.get(name + numbers.length).invoke(naive, numbers);
        if (wrong == 0) {
            story.append(' ').append(name).append(java.util.Arrays.toString(numbers)).append('=').append(got);
        }
        if (!got.equals(due)) {
            wrong++;
            System.out.println(name + java.util.Arrays.toString(numbers) + " answered " + got + ", due is " + due);
        }
    }
}
