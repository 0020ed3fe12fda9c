/** Promises 9 to 13: say, wipe, fault, parse, spell. */
public final class TextsTest {
    private static final String LONGEST = "2a-2a+2a-2a+2a-2a+2a-2a+2a-a+3b-3b<-1@s2";

    public static void main(String[] args) {
        promise9();
        promise10();
        promise11();
        promise11AtFullLength();
        promise12();
        promise12Errors();
        promise13();
        promise13Errors();
        Check.end("TextsTest");
    }

    private static void promise9() {
        LayoutSolver x = new LayoutSolver();
        Check.due("say(32)", x.say(32), Check.BAD_VALUE);
        Check.due("say(127)", x.say(127), Check.BAD_VALUE);
        Check.due("say(-1)", x.say(-1), Check.BAD_VALUE);
        Check.due("say(97+65536)", x.say(97 + 65536), Check.BAD_VALUE);
        Check.due("count(1)", x.count(1), 0);
        for (int i = 0; i < 40; i++) {
            Check.due("say", x.say(i % 2 == 0 ? 33 : 126), i + 1);
        }
        Check.due("the 41st", x.say(97), Check.TOO_MANY);
        Check.due("a bad 41st", x.say(32), Check.BAD_VALUE);
        Check.due("count(1)", x.count(1), 40);
    }

    private static void promise10() {
        LayoutSolver x = new LayoutSolver();
        Check.due("wipe() of nothing", x.wipe(), 0);
        Check.say(x, "b<7");
        Check.due("wipe()", x.wipe(), 3);
        Check.due("wipe() again", x.wipe(), 0);
        Check.say(x, "a=1");
        Check.due("parse()", x.parse(), 0);
        Check.dueText(x, 0, "a=1");
        Check.due("wipe() after parse()", x.wipe(), 0);
    }

    private static void promise11() {
        String[] correct = {"a<0", "a<-0", "a<5", "f>99", "-a=100", "a<199", "a<200", "a<20", "a<2", "a<-200", "3f=10",
            "-2a+3b-c>-17@m3", "a<1@r", "a<1@s", "a<1@m1", "a<1@w5", "a+a-a=3", "2a-2a<5"};
        for (String text : correct) {
            dueFault(text, Check.NONE);
        }
        String[] wrong = {"", "a", "-", "+a", "--a", "1a", "2", "22", "2g", "g", "A<1", "a<", "a<-", "a<--", "a<+1",
            "a<00", "a<01", "a<-00", "a<201", "a<2000", "a<210", "a<300", "a<-201", "a<1@", "a<1@r1", "a<1@s0",
            "a<1@s6", "a<1@w55", "a<1@x", "a<1@S", "a<<1", "a1", "a2b", "aa", "a+2", "a+-b", "a=1=", "a=1+", "a<1:",
            "a<1/", "a<@", "a=b", "a!", "a<1@rr", "a<1@w/", "`<1", "a<0@", "a?1", "a;1", "a+", "4a<1", "a<1@m@"};
        int[] fault = {0, 1, 1, 0, 1, 0, 1, 1, 1, 0, 0, 2, 3, 3, 2,
            3, 3, 4, 4, 5, 4, 4, 5, 4, 5, 5,
            5, 6, 4, 4, 2, 1, 1, 1, 3, 2, 3, 3, 3,
            3, 2, 2, 1, 5, 5, 0, 4, 1, 1, 2, 0, 5};
        for (int i = 0; i < wrong.length; i++) {
            dueFault(wrong[i], fault[i]);
        }
    }

    private static void dueFault(String text, int fault) {
        LayoutSolver x = new LayoutSolver();
        Check.say(x, text);
        Check.due("fault of " + text, x.fault(), fault);
        Check.due("length of " + text, x.count(1), text.length());
        Check.due("fault of " + text + " again", x.fault(), fault);
        Check.due("parse of " + text, x.parse() == Check.NOT_POSSIBLE ? 1 : 0, fault != Check.NONE || text.startsWith("2a-2a") ? 1 : 0);
    }

    private static void promise11AtFullLength() {
        dueFault("a+a-a+a-a+a-a+a-a+a-a+a-a+a-a+a-a+a-a+a-", 40);
        dueFault("a+a-a+a-a+a-a+a-a+a-a+a-a+a-a+a-a+a-a<10", Check.NONE);
        Check.due("length of the longest", LONGEST.length(), 40);
        LayoutSolver x = Check.layout(LONGEST);
        Check.dueText(x, 0, "a<-1@s2");
    }

    private static void promise12() {
        LayoutSolver x = new LayoutSolver();
        Check.draw(x, 0, 0, 2);
        Check.due("parse", Check.put(x, "2a+b-a-3f+2f<7"), 0);
        Check.dueText(x, 0, "a+b-f<7");
        Check.due("text is empty", x.count(1), 0);
        Check.due("draft stays", x.term(2, 0), 12);
        Check.due("parse", Check.put(x, "2a+2a-a>-200@s5"), 1);
        Check.dueText(x, 1, "3a>-200@s5");
        Check.due("parse", Check.put(x, "-e=-0@w"), 2);
        Check.dueText(x, 2, "-e=0@w");
        Check.due("parse", Check.put(x, "d>200@r"), 3);
        Check.due("strength", x.about(3, 8), 0);
        Check.due("weight", x.about(3, 9), 1);
        Check.due("parse", Check.put(x, "d<200@m2"), 4);
        Check.due("strength", x.about(4, 8), 2);
        Check.due("weight", x.about(4, 9), 2);
        Check.due("parse", Check.put(x, "c-c+d=3@m"), 5);
        Check.dueText(x, 5, "d=3@m");
        Check.due("connected", x.connected(2), 4);
        Check.due("count(2)", x.count(2), 6);
        x.remove(1);
        String[] begun = {"-", "a-", "2", "b-3", "a<-", "a<1@w", "a<-1@s5", "3a+b<199"};
        for (String text : begun) {
            x.wipe();
            Check.say(x, text);
            x.fault();
            Check.due("after " + text, Check.put(x, "c<8"), 1);
            Check.dueText(x, 1, "c<8");
            Check.due("strength", x.about(1, 8), 0);
            x.remove(1);
        }
        Check.due("lowest number", Check.put(x, "a<5@w"), 1);
        Check.due("weight after @s5", x.about(1, 9), 1);
    }

    private static void promise12Errors() {
        LayoutSolver x = new LayoutSolver();
        Check.due("nothing said", x.parse(), Check.NOT_POSSIBLE);
        Check.due("not correct", Check.put(x, "2a+2a<201"), Check.NOT_POSSIBLE);
        Check.due("text stays", x.count(1), 9);
        Check.due("all 0", Check.put(x, "a+b-b-a<5"), Check.NOT_POSSIBLE);
        Check.due("text stays", x.count(1), 9);
        Check.due("4", Check.put(x, "2a+2a<5"), Check.BAD_VALUE);
        Check.due("text stays", x.count(1), 7);
        Check.due("-4", Check.put(x, "c-2f-2f<5"), Check.BAD_VALUE);
        Check.due("one of two", Check.put(x, "a-a+3b+b<5"), Check.BAD_VALUE);
        Check.due("6", Check.put(x, "3a+3a=5"), Check.BAD_VALUE);
        Check.due("3 after all", Check.put(x, "3a+3a-3a=6"), 0);
        Check.due("conflict", Check.put(x, "a<1"), Check.CONFLICT);
        Check.due("text stays", x.count(1), 3);
        Check.due("count(0)", x.count(0), 1);
        for (int i = 1; i < 14; i++) {
            Check.due("parse", Check.put(x, "a<1@w"), i);
        }
        Check.due("before too many", Check.put(x, "a-a<1"), Check.NOT_POSSIBLE);
        Check.due("before too many", Check.put(x, "2a+2a<1"), Check.BAD_VALUE);
        Check.due("too many, though in conflict", Check.put(x, "a<1"), Check.TOO_MANY);
        Check.due("text stays", x.count(1), 3);
    }

    private static void promise13() {
        String[] standard = {"a<0", "-a=5", "2b>10", "-3c<-200", "a-b=99@s", "-a+2f>100@m5", "3a+3b<1@w2",
            "-3a-3b-3c-3d-3e-3f<-200@s5", "b+d=200@w", "a>-1@m"};
        for (String text : standard) {
            Check.dueText(Check.layout(text), 0, text);
        }
        Check.dueText(Check.layout("b+a-2a<5"), 0, "-a+b<5");
        Check.dueText(Check.layout("a<-0"), 0, "a<0");
        Check.dueText(Check.layout("a<7@r"), 0, "a<7");
        Check.dueText(Check.layout("a<7@s1"), 0, "a<7@s");
        LayoutSolver x = new LayoutSolver();
        Check.draw(x, 1);
        x.add(1, 3, 0, 4);
        Check.dueText(x, 0, "a=3");
        x.setStrength(0, 1, 4);
        x.setConstant(0, -30);
        Check.dueText(x, 0, "a=-30@s4");
    }

    private static void promise13Errors() {
        LayoutSolver x = Check.layout("a<5");
        Check.due("length", x.spell(0, -1), 3);
        Check.due("spell(0,2)", x.spell(0, 2), '5');
        Check.due("spell(0,3)", x.spell(0, 3), Check.NONE);
        Check.due("spell(0,-2)", x.spell(0, -2), Check.NONE);
        Check.due("spell(0,40)", x.spell(0, 40), Check.NONE);
        Check.due("spell(0,most)", x.spell(0, Check.MOST), Check.NONE);
        Check.due("spell(0,least)", x.spell(0, Check.LEAST), Check.NONE);
        Check.due("spell(1,99)", x.spell(1, 99), Check.NO_SUCH);
        Check.due("spell(-1,0)", x.spell(-1, 0), Check.NO_SUCH);
        Check.due("spell(14,-1)", x.spell(14, -1), Check.NO_SUCH);
    }
}
