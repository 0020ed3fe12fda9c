/** The form of a text: at each place all characters, at each length, all numbers. */
public final class GrammarTest {
    private static final String LETTERS = "abcdef", DIGITS = "0123456789";

    /** What stands already, and the characters with which a correct text can go on there. */
    private static final String[][] PLACES = {
        {"", "-23" + LETTERS}, {"-", "23" + LETTERS}, {"2", LETTERS}, {"3", LETTERS}, {"-2", LETTERS}, {"-3", LETTERS},
        {"a", "+-<=>"}, {"-f", "+-<=>"}, {"3c", "+-<=>"}, {"a+", "23" + LETTERS}, {"a-", "23" + LETTERS},
        {"2a+3", LETTERS}, {"2a-2", LETTERS}, {"a+b", "+-<=>"}, {"a-3a", "+-<=>"}, {"2a+2a", "+-<=>"},
        {"a<", "-" + DIGITS}, {"a=", "-" + DIGITS}, {"a>", "-" + DIGITS}, {"a<-", DIGITS}, {"a=-", DIGITS}, {"a>-", DIGITS},
        {"a<0", "@"}, {"a<-0", "@"}, {"a<1", DIGITS + "@"}, {"a<2", DIGITS + "@"}, {"a<3", DIGITS + "@"}, {"a<9", DIGITS + "@"},
        {"a<-1", DIGITS + "@"}, {"a<-2", DIGITS + "@"}, {"a<-9", DIGITS + "@"}, {"a<10", DIGITS + "@"}, {"a<19", DIGITS + "@"},
        {"a<20", "0@"}, {"a<-20", "0@"}, {"a<21", "@"}, {"a<30", "@"}, {"a<99", "@"}, {"a<-21", "@"}, {"a<100", "@"},
        {"a<199", "@"}, {"a<200", "@"}, {"a<-200", "@"}, {"a<1@", "rsmw"}, {"a<0@", "rsmw"}, {"a<-200@", "rsmw"},
        {"a<1@r", ""}, {"a<1@s", "12345"}, {"a<1@m", "12345"}, {"a<1@w", "12345"}, {"a<1@s1", ""}, {"a<1@m3", ""},
        {"a<1@w5", ""}};

    public static void main(String[] args) {
        for (String[] place : PLACES) allCharacters(place[0], place[1]);
        afterAFault();
        numbers();
        atMostForty();
        sums();
        weights();
        spelledTerms();
        Check.end("GrammarTest");
    }

    private static boolean isCorrect(String text) {
        return text.matches("-?[23]?[a-f]([+-][23]?[a-f])*[<=>]-?(0|[1-9][0-9]?|1[0-9][0-9]|200)(@(r|[smw][1-5]?))?");
    }

    private static void allCharacters(String before, String allowed) {
        LayoutSolver begun = new LayoutSolver();
        Check.say(begun, before);
        Check.due("fault of " + before, begun.fault(), isCorrect(before) ? Check.NONE : before.length());
        for (int c = 33; c <= 126; c++) {
            LayoutSolver x = new LayoutSolver();
            Check.say(x, before);
            Check.due("say(" + c + ")", x.say(c), before.length() + 1);
            String text = before + (char) c;
            int want = allowed.indexOf(c) < 0 ? before.length() : isCorrect(text) ? Check.NONE : text.length();
            Check.due("fault of " + text, x.fault(), want);
            if (want != Check.NONE) Check.due("parse of " + text, x.parse(), Check.NOT_POSSIBLE);
            Check.due("length of " + text, x.count(1), text.length());
        }
    }

    /** Behind a fault it does not matter what follows. */
    private static void afterAFault() {
        String[] texts = {"a<<5", "+a<5", "a<5@r1", "aa", "a<201@s"};
        int[] faults = {2, 0, 5, 1, 4};
        for (int i = 0; i < texts.length; i++) {
            LayoutSolver x = new LayoutSolver();
            Check.say(x, texts[i]);
            for (int length = texts[i].length(); length <= 40; length++) {
                Check.due("fault of " + texts[i], x.fault(), faults[i]);
                Check.due("parse of " + texts[i], x.parse(), Check.NOT_POSSIBLE);
                Check.due("say", x.say("a<5@+-2".charAt(length % 7)), length == 40 ? Check.TOO_MANY : length + 1);
            }
        }
    }

    private static void numbers() {
        for (int n = 0; n <= 2100; n++) {
            for (int sign = 0; sign <= 1; sign++) {
                String text = (sign == 0 ? "a=" : "a=-") + n;
                LayoutSolver x = new LayoutSolver();
                Check.say(x, text);
                int start = 2 + sign;
                int want = n <= 200 ? Check.NONE : start + (n < 1000 ? 2 : n / 10 <= 200 ? 3 : 2);
                Check.due("fault of " + text, x.fault(), want);
                Check.due("parse of " + text, x.parse(), n <= 200 ? 0 : Check.NOT_POSSIBLE);
                Check.due("constant of " + text, x.about(0, 7), n > 200 ? Check.NO_SUCH : 1000 + (sign == 0 ? n : -n));
                if (n <= 200) Check.dueText(x, 0, n == 0 ? "a=0" : text);
            }
            LayoutSolver zero = new LayoutSolver();
            Check.say(zero, "a=0" + n);
            Check.due("fault of a=0" + n, zero.fault(), 3);
        }
    }

    private static void atMostForty() {
        StringBuilder text = new StringBuilder();
        for (int i = 0; i < 18; i++) text.append(i % 2 == 0 ? "b+" : "b-");
        dueAtForty(text + "a<2", "5", Check.NONE);
        dueAtForty(text + "a<2", "+", 39);
        dueAtForty(text + "a<2", "@", 40);
        dueAtForty(text + "a<-", "5", Check.NONE);
        dueAtForty(text + "a<-", "-", 39);
        dueAtForty(text + "a+a", "<", 40);
        dueAtForty(text + "a+a", "2", 39);
        dueAtForty(text + "b-2", "a", 40);
        dueAtForty(text + "a+b", "-", 40);
        LayoutSolver x = new LayoutSolver();
        Check.due("parse", Check.put(x, text + "a<20"), 0);
        Check.dueText(x, 0, "-a+2b<20");
        Check.due("length behind it", x.say('a'), 1);
    }

    private static void dueAtForty(String before, String last, int fault) {
        LayoutSolver x = new LayoutSolver();
        Check.say(x, before + last);
        Check.due("fault of " + before + last, x.fault(), fault);
        Check.due("say", x.say('1'), Check.TOO_MANY);
        Check.due("fault again", x.fault(), fault);
        Check.due("wipe()", x.wipe(), 40);
        Check.due("say", x.say('1'), 1);
        Check.due("fault", x.fault(), 0);
    }

    /** Coefficients of the same variable are added before they are looked at. */
    private static void sums() {
        for (int n = 1; n <= 6; n++) {
            for (int sign = 0; sign <= 1; sign++) {
                StringBuilder text = new StringBuilder(sign == 0 ? "c" : "-c");
                for (int i = 1; i < n; i++) text.append(sign == 0 ? "+c" : "-c");
                LayoutSolver x = new LayoutSolver();
                Check.due("parse of " + text, Check.put(x, text + "<5"), n <= 3 ? 0 : Check.BAD_VALUE);
                Check.due("coefficient of " + text, x.about(0, 2), n > 3 ? Check.NO_SUCH : 10 + (sign == 0 ? n : -n));
            }
        }
        for (int v = 0; v < 6; v++) {
            char letter = (char) ('a' + v);
            LayoutSolver x = new LayoutSolver();
            Check.due("4", Check.put(x, "3" + letter + "+" + letter + "<5"), Check.BAD_VALUE);
            Check.due("-4", Check.put(x, "-3" + letter + "-" + letter + "<5"), Check.BAD_VALUE);
            Check.due("0", Check.put(x, "-3" + letter + "+3" + letter + "<5"), Check.NOT_POSSIBLE);
            Check.due("7 - 4", Check.put(x, "3" + letter + "+3" + letter + "+" + letter + "-2" + letter + "-2" + letter + "<5"), 0);
            Check.due("coefficient", x.about(0, v), 13);
            Check.due("connected", x.connected(v), 1 << v);
        }
    }

    private static void weights() {
        for (int s = 0; s <= 3; s++) {
            char letter = "rsmw".charAt(s);
            LayoutSolver x = new LayoutSolver();
            Check.due("parse", Check.put(x, "a=1@" + letter), 0);
            Check.due("strength", x.about(0, 8), s);
            Check.due("weight", x.about(0, 9), 1);
            Check.dueText(x, 0, s == 0 ? "a=1" : "a=1@" + letter);
            for (int w = 0; w <= 9; w++) {
                LayoutSolver y = new LayoutSolver();
                boolean isAllowed = s > 0 && w >= 1 && w <= 5;
                Check.due("parse @" + letter + w, Check.put(y, "a=1@" + letter + w), isAllowed ? 0 : Check.NOT_POSSIBLE);
                Check.due("fault @" + letter + w, y.fault(), isAllowed ? 0 : 5);
                Check.due("weight @" + letter + w, y.about(0, 9), isAllowed ? w : Check.NO_SUCH);
                if (isAllowed) Check.dueText(y, 0, "a=1@" + letter + (w == 1 ? "" : "" + w));
            }
        }
        LayoutSolver none = Check.layout("a=1");
        Check.due("strength", none.about(0, 8), 0);
        Check.due("weight", none.about(0, 9), 1);
    }

    /** The shortest and the longest standard text, and each coefficient at each place. */
    private static void spelledTerms() {
        String[] factors = {"-3", "-2", "-", "", "", "2", "3"};
        for (int v = 0; v < 6; v++) {
            for (int k = -3; k <= 3; k++) {
                if (k == 0) continue;
                String own = factors[k + 3] + (char) ('a' + v);
                LayoutSolver x = new LayoutSolver();
                x.term(v, k);
                x.add(2, -7, 1, 1);
                Check.dueText(x, 0, own + ">-7@s");
                LayoutSolver y = new LayoutSolver();
                int w = (v + 3) % 6;
                y.term(w, 1);
                y.term(v, k);
                y.add(0, 40, 0, 5);
                char other = (char) ('a' + w);
                Check.dueText(y, 0, v < w ? own + "+" + other + "<40" : other + (k > 0 ? "+" : "") + own + "<40");
            }
        }
        LayoutSolver shortest = Check.layout("a<0");
        Check.due("length", shortest.spell(0, -1), 3);
        LayoutSolver longest = Check.layout("-3a-3b-3c-3d-3e-3f=-200@m5");
        Check.due("length", longest.spell(0, -1), 26);
        Check.due("the last one", longest.spell(0, 25), '5');
        Check.due("behind it", longest.spell(0, 26), Check.NONE);
        Check.due("the first one", longest.spell(0, 0), '-');
        Check.due("before it", longest.spell(0, -2), Check.NONE);
    }
}
