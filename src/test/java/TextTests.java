import java.util.ArrayList;

/** THE TAPE, TEXTS with their FAULTS and refusals, and WRITTEN: each sentence that names a boundary. */
public final class TextTests extends Rows {
    private static final String[] ACTS = {"add 0", "add -", "add 01234567", "add 27", "take 123", "take -",
        "drop 3 1", "double 2", "weigh 0 9", "kind 1 4", "points 5", "turn"};

    public static void main(String[] args) {
        theTape();
        acts();
        sets();
        oneFigure();
        faults();
        wordsThatAreNone();
        endsTooEarly();
        anyByteAnywhere();
        faultsAheadOfActs();
        refusedActs();
        emptiedTape();
        longestTexts();
        stepsOfATextAreSteps();
        written();
        end("texts");
    }

    private static void faultOf(String text, int fault) {
        BlockerDesk x = desk(4, 3, 12);
        due(readText(x, text), -100 - fault);
        setsAre(x, 3, 12);
        due(x.count(7), 0);
    }

    private static void theTape() {
        begin("THE TAPE holds 0 .. 80 bytes 32 .. 126");
        BlockerDesk x = new BlockerDesk();
        due(x.count(7), 0);
        due(x.wipe(), 0);
        for (int letter = -3; letter < 260; letter++) {
            BlockerDesk y = new BlockerDesk();
            due(y.feed(letter), letter < 32 || letter > 126 ? BAD : 1);
            due(y.count(7), letter < 32 || letter > 126 ? 0 : 1);
        }
        for (int i = 1; i <= 80; i++) {
            due(x.feed(i % 2 == 0 ? 32 : 126), i);
        }
        due(x.feed(32), FULL);
        due(x.feed(31), BAD);
        due(x.feed(127), BAD);
        due(x.count(7), 80);
        due(x.wipe(), 80);
        due(x.count(7), 0);
        due(x.feed(32), 1);
    }

    private static void acts() {
        begin("A TEXT: ACTS, one or more, parted by ; : words with one blank between");
        BlockerDesk x = desk(3);
        due(readText(x, ""), -100);
        due(readText(x, "turn"), 1);
        setsAre(x, 0);
        due(readText(x, "turn;turn"), 2);
        setsAre(x, 0);
        due(readText(x, "take -;add 02;add 1"), 3);
        setsAre(x, 2, 5);
        due(readText(x, "take 02"), 1);
        setsAre(x, 2);
        due(readText(x, "double 1"), 1);
        setsAre(x, 2, 8);
        due(readText(x, "weigh 3 0"), 1);
        weightsAre(x, 1, 1, 1, 0);
        due(readText(x, "kind 0 4"), 1);
        kindsAre(x, 4, 0, 0, 0);
        due(readText(x, "drop 3 0"), 1);
        setsAre(x, 2);
        due(readText(x, "drop 1 1"), 1);
        setsAre(x, 0);
        kindsAre(x, 4, 0);
        due(readText(x, "points 6"), 1);
        kindsAre(x, 0, 0, 0, 0, 0, 0);
        begin("parted by ; : nothing ahead of the first, behind the last, nothing between two");
        faultOf(";", 0);
        faultOf(";turn", 0);
        faultOf("turn;", 5);
        faultOf("turn;;turn", 5);
        faultOf("turn,turn", 4);
        faultOf("turn turn", 4);
        faultOf("turn; turn", 5);
        faultOf("turn ;turn", 4);
        begin("one blank between: not two, none ahead, none behind");
        faultOf(" ", 0);
        faultOf(" turn", 0);
        faultOf("turn ", 4);
        faultOf("add  0", 4);
        faultOf("add 0 ", 5);
        faultOf("drop  0 0", 5);
        faultOf("drop 0  0", 7);
        faultOf("drop 0 0 ", 8);
        faultOf("drop 00", 6);
        faultOf("points4", 6);
        faultOf("add0", 3);
    }

    private static void sets() {
        begin("A SET: figures 0 .. 7 rising, one for each POINT, or - for the empty one");
        BlockerDesk x = desk(6);
        due(readText(x, "add 012345"), 1);
        setsAre(x, 63);
        due(readText(x, "add 05"), 1);
        setsAre(x, 33);
        due(readText(x, "take 05;add 5;add 0"), 3);
        setsAre(x, 1, 32);
        due(readText(x, "add -"), 1);
        setsAre(x, 0);
        due(readText(x, "take -"), 1);
        setsAre(x);
        begin("a SET of POINTS 6, 7 is a SET, and refused");
        for (String set : new String[] {"6", "7", "67", "07", "0123456", "01234567"}) {
            due(readText(x, "add " + set), -200);
            due(readText(x, "take " + set), -200);
        }
        begin("of a SET the first figure that does not rise");
        faultOf("add 00", 5);
        faultOf("add 10", 5);
        faultOf("add 77", 5);
        faultOf("add 76", 5);
        faultOf("add 0120", 7);
        faultOf("add 0122", 7);
        faultOf("add 0132", 7);
        faultOf("take 012345677", 13);
        faultOf("take 531", 6);
        begin("a SET has no figures 8, 9, and - stands alone");
        faultOf("add 8", 4);
        faultOf("add 9", 4);
        faultOf("add 08", 5);
        faultOf("add 79", 5);
        faultOf("add --", 5);
        faultOf("add -0", 5);
        faultOf("add 0-", 5);
        faultOf("add 0,1", 5);
        faultOf("add .", 4);
        faultOf("add ;", 4);
    }

    private static void oneFigure() {
        begin("all others one figure 0 .. 9");
        for (char figure = '0'; figure <= '9'; figure++) {
            for (String act : new String[] {"drop f 0", "drop 0 f", "double f", "weigh f 0", "weigh 0 f",
                "kind f 0", "kind 0 f", "points f"}) {
                BlockerDesk x = desk(3, 3, 4);
                int answer = readText(x, act.replace('f', figure));
                due(answer == 1 || answer == -200 ? 1 : 0, 1);
            }
        }
        for (String act : new String[] {"drop ", "drop 0 ", "double ", "weigh ", "weigh 0 ", "kind ", "kind 0 ",
            "points "}) {
            faultOf(act + "-", act.length());
            faultOf(act + "/", act.length());
            faultOf(act + ":", act.length());
            faultOf(act + "a", act.length());
            faultOf(act + "-1", act.length());
            faultOf(act + "10", act.length() + 1);
        }
        begin("a number out of its range is refused, no FAULT");
        for (String act : new String[] {"drop 4 0", "drop 9 0", "drop 0 2", "drop 0 9", "double 4", "double 9",
            "weigh 4 0", "weigh 9 9", "kind 4 0", "kind 0 5", "kind 0 9", "points 0", "points 7", "points 9",
            "add 4", "take 4"}) {
            BlockerDesk x = desk(4, 3, 12);
            due(readText(x, act), -200);
            setsAre(x, 3, 12);
            due(readText(x, "weigh 0 9;" + act), -201);
            due(x.of(0, 1), 9);
        }
    }

    private static void faults() {
        begin("FAULT: the first byte with which no such text goes on");
        faultOf("0", 0);
        faultOf("-", 0);
        faultOf("~", 0);
        faultOf("add\"1", 3);
        faultOf("add-", 3);
        faultOf("add;turn", 3);
        faultOf("turn1", 4);
        faultOf("turn-", 4);
        faultOf("turn 0", 4);
        faultOf("double 0 1", 8);
        faultOf("points 4 4", 8);
        faultOf("drop 0;turn", 6);
        faultOf("weigh 0;", 7);
        faultOf("kind 0 1 2", 8);
        faultOf("turn;drop 0 0;add 10", 19);
    }

    private static void wordsThatAreNone() {
        begin("of a word that is none of these where it begins");
        for (String word : new String[] {"a", "ad", "addd", "addturn", "ta", "took", "dro", "drops", "doubled",
            "doubl", "weight", "weigths", "kin", "kinds", "point", "pointss", "tur", "turns", "join", "z", "back"}) {
            faultOf(word, 0);
            faultOf(word + " 1", 0);
            faultOf(word + ";turn", 0);
            faultOf("turn;" + word, 5);
            faultOf("turn;add 0;" + word + " 0 0", 11);
        }
        for (String word : new String[] {"Add", "ADD", "Turn", "_add", "1add"}) {
            faultOf(word + " 1", 0);
            faultOf("turn;" + word, 5);
        }
    }

    private static void endsTooEarly() {
        begin("or the length, if it ends too early: -100 less it");
        for (String text : new String[] {"", "turn;", "add", "add ", "take", "take ", "drop", "drop ", "drop 0",
            "drop 0 ", "double", "double ", "weigh", "weigh ", "weigh 0", "weigh 0 ", "kind", "kind ", "kind 0",
            "kind 0 ", "points", "points ", "turn;add", "turn;drop 0", "add 0;"}) {
            faultOf(text, text.length());
        }
    }

    /** Each byte in the place of each byte, and put ahead of it: the FAULT is where NaiveText finds it. */
    private static void anyByteAnywhere() {
        begin("FAULT of a text in which one byte is another one, or one too many, or that is cut off");
        for (String act : ACTS) {
            for (int at = 0; at <= act.length(); at++) {
                sameFault(act.substring(0, at));
                sameFault("turn;" + act.substring(0, at));
                for (char letter = 32; letter < 127; letter++) {
                    sameFault(act.substring(0, at) + letter + act.substring(at));
                    sameFault(act.substring(0, at) + letter + act.substring(Math.min(at + 1, act.length())));
                }
            }
        }
    }

    private static void sameFault(String text) {
        int fault = NaiveText.parse(text, new ArrayList<>());
        int answer = readText(new BlockerDesk(), text);
        if (fault >= 0) {
            due(answer, -100 - fault);
        } else {
            due(answer > 0 || answer <= -200 ? 1 : 0, 1);
        }
    }

    private static void faultsAheadOfActs() {
        begin("The whole text is looked at for a FAULT ahead of the first ACT");
        BlockerDesk x = desk(4, 3, 12);
        due(readText(x, "points 2;add 0;turn;"), -120);
        due(readText(x, "drop 0 0;weigh 0 9;kind 0 4;take 9"), -133);
        setsAre(x, 3, 12);
        kindsAre(x, 0, 0, 0, 0);
        weightsAre(x, 1, 1, 1, 1);
        due(x.count(6), 2);
        begin("read(): FAULT, then -200 less the ACTS");
        due(readText(x, "add 7;add 10"), -111);
        due(readText(x, "points 9;"), -109);
        due(readText(x, "take 0;x"), -107);
        due(x.count(0), 4);
        setsAre(x, 3, 12);
    }

    private static void refusedActs() {
        begin("An ACT refused (as the call would be): those ahead are done, those behind are not");
        BlockerDesk x = desk(4);
        due(readText(x, "take 0"), -200);
        due(readText(x, "add 0;add 1;take 2;add 3"), -202);
        setsAre(x, 1, 2);
        due(readText(x, "add 0;add 0;take 0;take 0;add 3"), -203);
        setsAre(x, 2);
        due(readText(x, "double 0;double 0;double 0;turn"), -202);
        due(x.count(0), 6);
        setsAre(x, 2);
        due(readText(x, "points 2;drop 0 0;drop 0 0;points 5"), -202);
        due(x.count(0), 1);
        due(readText(x, "points 6;add 5;points 5;add 5;points 4"), -203);
        due(x.count(0), 5);
        begin("an ACT by which nothing is otherwise is done, and not refused");
        due(readText(x, "points 5;weigh 0 1;kind 0 0;add 0;add 0;add 01"), 6);
        due(x.count(6), 1);
        setsAre(x, 1);
        begin("take and drop that leave no sets answer 0, and are done");
        due(readText(x, "take 0;add 1;drop 1 0"), 3);
        setsAre(x);
    }

    private static void emptiedTape() {
        begin("THE TAPE is empty behind each call that reads it, by a FAULT and by all that is refused, too");
        BlockerDesk x = desk(4);
        for (String text : new String[] {"", "turn", "turn;", "xyz", "take 0", "turn;take 0;turn", "turn;turn"}) {
            readText(x, text);
            due(x.count(7), 0);
            due(x.wipe(), 0);
            due(x.feed('t'), 1);
            due(x.wipe(), 1);
        }
        begin("what was fed ahead of a wipe() is not read");
        feedText(x, "add 0;");
        due(x.wipe(), 6);
        due(readText(x, "turn"), 1);
        begin("a longer text that was read leaves nothing behind a shorter one");
        due(readText(x, "add 0;add 1;add 2"), 3);
        due(readText(x, "turn"), 1);
        due(readText(x, "turn;"), -105);
        due(x.read(), -100);
    }

    private static void longestTexts() {
        begin("THE TAPE of 80 bytes is read");
        BlockerDesk x = desk(3);
        String fifteen = "turn;".repeat(15);
        due(readText(x, fifteen + "add 0"), 16);
        x.points(3);
        due(readText(x, fifteen + "add 3"), -215);
        x.points(3);
        due(readText(x, fifteen + "turn"), 16);
        due(readText(x, fifteen + "turn;"), -180);
        due(readText(x, fifteen + "turnx"), -175);
        due(readText(x, fifteen + "add 8"), -179);
        // what comes behind the 80th byte is refused by feed() and not of the text
        due(readText(x, fifteen + "add 0turn"), 16);
        due(readText(x, "a".repeat(80)), -100);
        due(readText(x, " ".repeat(80)), -100);
    }

    private static void stepsOfATextAreSteps() {
        begin("STEPS (by read(), too)");
        BlockerDesk x = desk(4);
        due(readText(x, "add 0;add 1;add 01;weigh 2 5;kind 3 3;double 0;turn;drop 0 1;take -"), -208);
        due(x.count(6), 7);
        due(x.back(), 6);
        due(x.count(0), 5);
        due(x.back(), 5);
        setsAre(x, 1, 2, 16);
        due(x.back(), 4);
        due(x.count(0), 4);
        due(x.back(), 3);
        due(x.of(3, 0), 0);
        due(x.back(), 2);
        due(x.of(2, 1), 1);
        due(x.back(), 1);
        setsAre(x, 1);
        due(x.back(), 0);
        setsAre(x);
        due(x.back(), STATE);
        begin("points by read() leaves none");
        due(readText(x, "add 0;add 1;points 4"), 3);
        due(x.count(6), 0);
        due(readText(x, "add 0;points 4;add 1"), 3);
        due(x.count(6), 1);
        due(readText(x, "add 0;points 7"), -201);
        due(x.count(6), 2);
    }

    private static void written() {
        begin("WRITTEN: sets by order, each as in a TEXT, with , between; a point alone (.), if there are none");
        for (int n = 1; n <= 6; n++) {
            saidIs(desk(n), ".");
            saidIs(desk(n, 0), "-");
            saidIs(desk(n, (1 << n) - 1), "012345".substring(0, n));
            saidIs(desk(n, 1 << (n - 1)), String.valueOf(n - 1));
        }
        saidIs(desk(6, 32, 16, 8, 4, 2, 1), "0,1,2,3,4,5");
        saidIs(desk(4, 12, 3), "01,23");
        begin("WRITTEN at its longest");
        BlockerDesk x = desk(6);
        addSized(x, 3);
        StringBuilder text = new StringBuilder();
        for (int s = 0; s < 64; s++) {
            if (Integer.bitCount(s) == 3) {
                text.append(text.length() == 0 ? "" : ",");
                for (int p = 0; p < 6; p++) {
                    text.append((s >> p & 1) == 1 ? String.valueOf(p) : "");
                }
            }
        }
        due(text.length(), 79);
        saidIs(x, text.toString());
        begin("WRITTEN is of THE FAMILY as it is now");
        x.points(6);
        saidIs(x, ".");
        x.add(0);
        saidIs(x, "-");
    }
}
