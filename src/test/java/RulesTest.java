import java.io.IOException;
import java.lang.reflect.Field;
import java.lang.reflect.Method;
import java.lang.reflect.Modifier;
import java.nio.file.Files;
import java.nio.file.Path;
import java.util.Set;
import java.util.regex.Matcher;
import java.util.regex.Pattern;

/** What can be seen easily of the rules of LANGUAGE.md, and what the dearest calls leave in the room (rule 12). */
public final class RulesTest {
    private static final String[] FORBIDDEN = {"import ", "->", "::", "throw", "try ", "catch", "synchronized", "assert",
        "instanceof", "@", "var ", "static {", "new Object", "System.", "Exact", "volatile", "native", "\""};

    /** Of the library that rule 4 leaves, the program needs no more than this. */
    private static final Set<String> LIBRARY = Set.of("Math.abs", "Long.compare", "Integer.bitCount");

    public static void main(String[] args) throws IOException {
        words();
        library();
        signs();
        sizes(LayoutSolver.class);
        int classes = 1;
        for (Class<?> inside : LayoutSolver.class.getDeclaredClasses()) {
            sizes(inside);
            classes++;
        }
        Check.due(classes + " classes are too many", classes > 12 ? 1 : 0, 0);
        room();
        Check.end("RulesTest");
    }

    private static String source() throws IOException {
        return Files.readString(Path.of("src/main/java/LayoutSolver.java"));
    }

    private static String code() throws IOException {
        return source().replaceAll("(?s)/\\*.*?\\*/", "").replaceAll("//[^\n]*", "").replace("'@'", "");
    }

    private static void library() throws IOException {
        Matcher used = Pattern.compile("\\b(Math|Long|Integer|String|StringBuilder|Arrays|List|Character)\\.\\w+").matcher(code());
        while (used.find()) {
            Check.due(used.group() + " is used", LIBRARY.contains(used.group()) ? 1 : 0, 1);
        }
    }

    private static void signs() throws IOException {
        for (char sign : source().toCharArray()) {
            Check.due("a sign has the number " + (int) sign, sign == '\n' || sign >= 32 && sign < 127 ? 1 : 0, 1);
        }
    }

    private static void words() throws IOException {
        String code = code();
        for (String word : FORBIDDEN) {
            Check.due("'" + word + "' stands in the program", code.contains(word) ? 1 : 0, 0);
        }
        int length = 0;
        for (String line : code.split("\n")) {
            length = line.isEmpty() || line.matches(" {4,8}}") ? 0 : length + 1;
            Check.due("a method has over 60 lines at " + line, length > 60 ? 1 : 0, 0);
        }
    }

    private static void sizes(Class<?> c) {
        int fields = 0;
        for (Field f : c.getDeclaredFields()) {
            fields += Modifier.isStatic(f.getModifiers()) ? 0 : 1;
        }
        Check.due(c + " has " + fields + " fields", fields > 20 ? 1 : 0, 0);
        for (Method m : c.getDeclaredMethods()) {
            Check.due(m + " takes too many parameters", m.getParameterCount() > 7 ? 1 : 0, 0);
        }
    }

    /** All calls of a run share a room of 7.3 million elements; here a run may take 100 kilobytes. */
    private static void room() {
        com.sun.management.ThreadMXBean threads =
                (com.sun.management.ThreadMXBean) java.lang.management.ManagementFactory.getThreadMXBean();
        long before = threads.getThreadAllocatedBytes(Thread.currentThread().getId());
        LayoutSolver x = new LayoutSolver();
        for (int call = 0; call < 512; call++) {
            dearCall(x, call);
        }
        long taken = threads.getThreadAllocatedBytes(Thread.currentThread().getId()) - before;
        Check.due("a run takes " + taken + " bytes", taken > 100000 ? 1 : 0, 0);
    }

    private static void dearCall(LayoutSolver x, int call) {
        if (call < 84) {
            if (call % 6 < 5) x.term(call % 6, call * 5 % 7 - 3);
            else x.add(call / 6 % 3, call * 7 % 40, call / 6 % 4, 1 + call % 5);
            return;
        }
        switch (call % 8) {
            case 0: x.best(call % 6, call % 50, call % 50 + 15); break;
            case 1: x.burdens(); break;
            case 2: x.play(call % 14, call % 2); break;
            case 3: x.ambiguous(); break;
            case 4: x.setConstant(call % 14, call % 30); break;
            case 5: x.force(call % 6, call % 40, 1, 0); break;
            case 6: x.fault(); break;
            default: x.spell(call % 14, 3);
        }
    }
}
