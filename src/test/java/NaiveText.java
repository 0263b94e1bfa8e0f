import java.util.List;
import java.util.regex.Matcher;
import java.util.regex.Pattern;

/** TEXTS, read by asking of each beginning of the text whether some text goes on from it. */
final class NaiveText {
    private static final List<String> WORDS =
        List.of("add", "take", "drop", "double", "weigh", "kind", "points", "turn");
    private static final String SET = "(-|(?=[0-7])0?1?2?3?4?5?6?7?)";
    private static final String ACT = "((add|take) " + SET + "|(drop|weigh|kind) [0-9] [0-9]"
        + "|(double|points) [0-9]|turn)";
    private static final Pattern TEXT = Pattern.compile(ACT + "(;" + ACT + ")*");

    private NaiveText() { }

    /** The FAULT; -1, if there is none: then the ACTS are in the list. */
    static int parse(String text, List<int[]> acts) {
        if (!TEXT.matcher(text).matches()) {
            return fault(text);
        }
        for (String act : text.split(";")) {
            String[] words = act.split(" ");
            int[] told = {WORDS.indexOf(words[0]), 0, 0};
            for (int i = 1; i < words.length; i++) {
                told[i] = told[0] < 2 ? setOf(words[i]) : words[i].charAt(0) - '0';
            }
            acts.add(told);
        }
        return -1;
    }

    private static int setOf(String word) {
        int set = 0;
        for (char c : word.toCharArray()) {
            set += c == '-' ? 0 : 1 << (c - '0');
        }
        return set;
    }

    private static int fault(String text) {
        int good = 0;
        while (good < text.length() && goesOn(text.substring(0, good + 1))) {
            good++;
        }
        // a word that is none of these is told where it begins
        Matcher word = Pattern.compile("(^|;)([a-z]*)").matcher(text);
        while (word.find()) {
            if (word.start(2) <= good && !WORDS.contains(word.group(2)) && word.end(2) >= good) {
                return word.start(2);
            }
        }
        return good;
    }

    private static boolean goesOn(String beginning) {
        Matcher m = TEXT.matcher(beginning);
        return m.matches() || m.hitEnd();
    }
}
