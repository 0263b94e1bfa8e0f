import java.lang.reflect.Constructor;
import java.lang.reflect.Field;
import java.lang.reflect.Method;
import java.lang.reflect.Modifier;
import java.nio.file.Files;
import java.nio.file.Path;
import java.util.TreeSet;
import java.util.regex.Matcher;
import java.util.regex.Pattern;

/** The rules of LANGUAGE.md that can be looked up, the document's face, and the room that calls take. */
public final class LanguageTests {
    private static final String FACE = "points(int) weight(int,int) kind(int,int) of(int,int) add(int) take(int)"
        + " drop(int,int) doubled(int) turn() set(int) blocker(int) is(int,int) minor(int,int,int) tau(int)"
        + " nu(int) half() lightest(int) packs() allPack(int) bad(int) packsDoubled(int) keep(int) lay(int)"
        + " join(int,int) same(int,int) row(int,int) put(int,int,int) get(int,int) film(int) judge(int) back()"
        + " feed(int) wipe() read() say(int) act(int,int,int) trace(int) taken(int,int) image() undo()"
        + " count(int)";
    private static final String[] FORBIDDEN = {
        "\\bthrow\\b", "\\bthrows\\b", "\\btry\\b", "\\bcatch\\b", "\\bsynchronized\\b", "\\bassert\\b",
        "\\bimport\\b", "\\bpackage\\b", "->", "::", "Exact\\b", "\\bSystem\\.(?!arraycopy)", "\\bstatic\\s*\\{",
        "\\bObject\\b", "\\bhashCode\\b", "\\bvolatile\\b", "\\bnative\\b", "while\\s*\\(true\\)", "for\\s*\\(;;"
    };
    private static int wrong = 0;

    private static void must(boolean holds, String what) {
        if (!holds) {
            wrong++;
            System.out.println("language: " + what);
        }
    }

    public static void main(String[] args) throws Exception {
        String source = Files.readString(Path.of(args.length > 0 ? args[0] : "src/main/java/BlockerDesk.java"));
        String code = source.replaceAll("(?s)/\\*.*?\\*/", "").replaceAll("//[^\n]*", "")
            .replaceAll("\"[^\"\n]*\"", "\"\"");
        for (String pattern : FORBIDDEN) {
            Matcher m = Pattern.compile(pattern).matcher(code);
            must(!m.find(), "the source has " + pattern);
        }
        must(source.chars().allMatch(c -> c < 128), "the source has signs above 127");
        methodsAreShort(source);
        faceIsTheDocuments();
        classesInside();
        callsMakeFewObjects();
        System.out.println(wrong == 0 ? "language: all rules looked at hold" : "language: " + wrong + " wrong");
        if (wrong != 0) {
            System.exit(1);
        }
    }

    private static void methodsAreShort(String source) {
        String[] lines = source.split("\n");
        for (int i = 0; i < lines.length; i++) {
            Matcher head = Pattern.compile("^( +)[a-z].*\\) \\{$").matcher(lines[i]);
            if (head.find()) {
                int end = i;
                while (end < lines.length && !lines[end].equals(head.group(1) + "}")) {
                    end++;
                }
                must(end - i < 60, "a long method: " + lines[i]);
            }
        }
    }

    private static String named(Method m) {
        String kinds = "int,".repeat(m.getParameterCount());
        return m.getName() + "(" + (kinds.isEmpty() ? "" : kinds.substring(0, kinds.length() - 1)) + ")";
    }

    private static void faceIsTheDocuments() {
        must(Modifier.isPublic(BlockerDesk.class.getModifiers()), "the class is public");
        must(Modifier.isFinal(BlockerDesk.class.getModifiers()), "the class is final");
        TreeSet<String> found = new TreeSet<>();
        TreeSet<String> openNames = new TreeSet<>();
        for (Method m : BlockerDesk.class.getDeclaredMethods()) {
            if (!Modifier.isPrivate(m.getModifiers())) {
                found.add(named(m));
                openNames.add(m.getName());
                must(m.getReturnType() == int.class, m + " answers an int");
                must(Modifier.isPublic(m.getModifiers()), m + " is public");
            }
        }
        must(found.equals(new TreeSet<>(java.util.List.of(FACE.split(" ")))), "the face is " + found);
        for (Method m : BlockerDesk.class.getDeclaredMethods()) {
            must(Modifier.isPublic(m.getModifiers()) || !openNames.contains(m.getName()), "a private " + m);
        }
        for (Class<?> inside : BlockerDesk.class.getDeclaredClasses()) {
            for (Method m : inside.getDeclaredMethods()) {
                must(!openNames.contains(m.getName()), "one inside bears a public name: " + m);
            }
        }
        TreeSet<String> constants = new TreeSet<>();
        for (Field f : BlockerDesk.class.getDeclaredFields()) {
            if (!Modifier.isPrivate(f.getModifiers())) {
                constants.add(f.getName());
            }
            must(!Modifier.isStatic(f.getModifiers()) || Modifier.isFinal(f.getModifiers()), f + " is final");
        }
        must(constants.toString().equals("[BAD, FULL, NOT, STATE, VOID]"), "the constants are " + constants);
        Constructor<?>[] made = BlockerDesk.class.getDeclaredConstructors();
        must(made.length == 1 && made[0].getParameterCount() == 0, "one constructor without numbers");
    }

    private static void classesInside() {
        Class<?>[] inside = BlockerDesk.class.getDeclaredClasses();
        must(inside.length <= 12, "classes inside: " + inside.length);
        for (Class<?> c : inside) {
            must(Modifier.isStatic(c.getModifiers()), c + " is static");
            must(!Modifier.isPublic(c.getModifiers()) && !Modifier.isProtected(c.getModifiers()), c + " is closed");
            int fields = 0;
            for (Field f : c.getDeclaredFields()) {
                must(!Modifier.isStatic(f.getModifiers()) || Modifier.isFinal(f.getModifiers()), f + " is final");
                fields += Modifier.isStatic(f.getModifiers()) ? 0 : 1;
            }
            must(fields <= 20, c + " has " + fields + " fields");
        }
    }

    /** All calls share one room: once a desk is made, 512 of the dearest calls need next to nothing. */
    private static void callsMakeFewObjects() {
        var threads = (com.sun.management.ThreadMXBean) java.lang.management.ManagementFactory.getThreadMXBean();
        long id = Thread.currentThread().getId();
        dearCalls(new BlockerDesk(), 1);
        BlockerDesk x = new BlockerDesk();
        long before = threads.getThreadAllocatedBytes(id);
        dearCalls(x, 40);
        long calls = threads.getThreadAllocatedBytes(id) - before;
        must(calls < 20_000, "calls took " + calls + " bytes");
        before = threads.getThreadAllocatedBytes(id);
        x = new BlockerDesk();
        long made = threads.getThreadAllocatedBytes(id) - before;
        must(x.count(0) == 4 && made < 12_000, "a new object took " + made + " bytes");
    }

    private static void dearCalls(BlockerDesk x, int times) {
        for (int i = 0; i < times; i++) {
            x.points(6);
            x.add(3);
            x.add(12);
            x.add(48);
            x.add(21);
            x.keep(0);
            x.film(1);
            x.turn();
            x.join(0, 1);
            x.back();
            x.allPack(1);
            x.bad(1);
            x.nu(2);
            x.half();
            x.lightest(0);
            x.say(-1);
            x.feed('t');
            x.read();
            x.kind(0, 4);
            x.act(0, 1, 5);
            x.image();
            x.undo();
        }
    }
}
