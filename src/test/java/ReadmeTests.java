import java.lang.reflect.Method;
import java.nio.file.Files;
import java.nio.file.Path;
import java.util.regex.Matcher;
import java.util.regex.Pattern;

/** The example in README.md: each line of it answers what is said behind it. */
public final class ReadmeTests extends Rows {
    private static final Pattern CALL = Pattern.compile("desk\\.(\\w+)\\(([^)]*)\\);\\s*// (?:BAD \\()?(-?\\d+).*");
    private static final Pattern TEXT = Pattern.compile("for \\(char letter : \"([^\"]*)\"\\.toCharArray\\(\\)\\) \\{");

    public static void main(String[] args) throws Exception {
        String page = Files.readString(Path.of("README.md"));
        String example = page.split("```java\n", 2)[1].split("```", 2)[0];
        BlockerDesk desk = new BlockerDesk();
        int calls = 0;
        for (String line : example.split("\n")) {
            Matcher call = CALL.matcher(line);
            Matcher text = TEXT.matcher(line);
            if (text.matches()) {
                feedText(desk, text.group(1));
            } else if (call.matches()) {
                begin(line);
                due(answer(desk, call.group(1), call.group(2)), Integer.parseInt(call.group(3)));
                calls++;
            }
        }
        begin("each call of the example has its answer behind it (but feed())");
        due(calls, example.split("(?m)^desk\\.", -1).length - 1);
        due(calls > 25 ? 1 : 0, 1);
        eachCallIsNamed(page);
        end("readme");
    }

    private static int answer(BlockerDesk desk, String name, String told) throws Exception {
        String[] words = told.isEmpty() ? new String[0] : told.split(", ");
        Class<?>[] kinds = new Class<?>[words.length];
        Object[] numbers = new Object[words.length];
        for (int i = 0; i < words.length; i++) {
            kinds[i] = int.class;
            boolean bits = words[i].startsWith("0b");
            numbers[i] = bits ? Integer.parseInt(words[i].substring(2), 2) : Integer.parseInt(words[i]);
        }
        return (Integer) BlockerDesk.class.getMethod(name, kinds).invoke(desk, numbers);
    }

    private static void eachCallIsNamed(String page) {
        for (Method m : BlockerDesk.class.getDeclaredMethods()) {
            if (java.lang.reflect.Modifier.isPublic(m.getModifiers())) {
                begin("README.md names " + m.getName());
                due(page.contains("`" + m.getName() + "`") ? 1 : 0, 1);
            }
        }
    }
}
