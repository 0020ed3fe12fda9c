import java.lang.reflect.Method;
import java.lang.reflect.Modifier;
import java.nio.file.Files;
import java.nio.file.Path;
import java.util.HashMap;
import java.util.Map;

/**
 * Runs whose answers come from another program, in another language and with another form of the simplex, which shares
 * no code with LayoutSolver or Reference: so an error that both of these have may still show.
 */
public final class RecordedRuns {
    private static final Path RUNS = Path.of("src/test/runs/recorded.txt");
    private static final int MOST_CALLS = 512;

    public static void main(String[] args) throws Exception {
        Map<String, Method> methods = methods();
        LayoutSolver x = new LayoutSolver();
        int run = 0;
        int call = 0;
        for (String line : Files.readAllLines(RUNS)) {
            if (line.equals("new")) {
                x = new LayoutSolver();
                run++;
                call = 0;
            } else {
                call++;
                replay(x, methods, "run " + run + ", call " + call, line);
            }
            Check.due("run " + run + " is too long", call > MOST_CALLS ? 1 : 0, 0);
        }
        Check.due("runs", run, 18);
        Check.end("RecordedRuns");
    }

    private static Map<String, Method> methods() {
        Map<String, Method> found = new HashMap<>();
        for (Method m : LayoutSolver.class.getDeclaredMethods()) {
            if (Modifier.isPublic(m.getModifiers())) {
                found.put(m.getName(), m);
            }
        }
        return found;
    }

    /** A line is a method's name, its arguments, "=" and the answer that is due. */
    private static void replay(LayoutSolver x, Map<String, Method> methods, String where, String line) throws Exception {
        String[] words = line.split(" ");
        Object[] arguments = new Object[words.length - 3];
        for (int i = 0; i < arguments.length; i++) {
            arguments[i] = Integer.valueOf(words[i + 1]);
        }
        Object got = methods.get(words[0]).invoke(x, arguments);
        Check.due(where + ": " + line, ((Number) got).longValue(), Long.parseLong(words[words.length - 1]));
    }
}
