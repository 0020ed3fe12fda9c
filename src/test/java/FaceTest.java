import java.lang.reflect.Constructor;
import java.lang.reflect.Field;
import java.lang.reflect.Method;
import java.lang.reflect.Modifier;
import java.util.Set;
import java.util.TreeSet;

/** The face of the class, by LANGUAGE.md's rules 1 and 5, and calls with arguments from all over. */
public final class FaceTest {
    private static final String[] FACE = {"term 2 int", "add 4 int", "remove 1 int", "setConstant 2 int",
        "setStrength 3 int", "about 2 int", "constraints 0 int", "say 1 int", "wipe 0 int", "fault 0 int",
        "parse 0 int", "spell 2 int", "undo 0 int", "redo 0 int", "cost 2 long", "low 2 long", "high 2 long",
        "ambiguous 0 int", "value 3 long", "status 1 int", "reach 3 long", "connected 1 int", "blockers 2 int",
        "force 4 long", "best 3 int", "burdens 0 int", "play 2 int", "count 1 int", "save 1 int", "restore 1 int"};
    private static final int[] ANY = {Integer.MIN_VALUE, Integer.MIN_VALUE + 1, -1001, -1000, -201, -200, -6, -4, -3, -2,
        -1, 0, 1, 2, 3, 4, 5, 6, 7, 9, 10, 13, 14, 15, 20, 33, 40, 41, 97, 126, 127, 200, 201, 1000, 1001, 65536,
        Integer.MAX_VALUE - 15, Integer.MAX_VALUE - 1, Integer.MAX_VALUE};

    public static void main(String[] args) throws Exception {
        face();
        members();
        anyArguments();
        afterTheLastCall();
        Check.end("FaceTest");
    }

    private static void face() {
        Set<String> want = new TreeSet<>(Set.of(FACE));
        Set<String> got = new TreeSet<>();
        for (Method m : LayoutSolver.class.getDeclaredMethods()) {
            if (Modifier.isPublic(m.getModifiers())) {
                got.add(m.getName() + " " + m.getParameterCount() + " " + m.getReturnType());
            }
        }
        Check.due("public methods " + got, got.equals(want) ? 1 : 0, 1);
        Check.due("final", Modifier.isFinal(LayoutSolver.class.getModifiers()) ? 1 : 0, 1);
        Constructor<?>[] constructors = LayoutSolver.class.getDeclaredConstructors();
        Check.due("constructors", constructors.length, 1);
        Check.due("parameters of the constructor", constructors[0].getParameterCount(), 0);
    }

    private static void members() {
        int constants = 0;
        for (Field f : LayoutSolver.class.getDeclaredFields()) {
            boolean isConstant = Modifier.isPublic(f.getModifiers());
            constants += isConstant ? 1 : 0;
            Check.due(f + " is private or a constant", isConstant || Modifier.isPrivate(f.getModifiers()) ? 1 : 0, 1);
            Check.due(f + " is final", Modifier.isFinal(f.getModifiers()) ? 1 : 0, 1);
        }
        Check.due("public constants", constants, 14);
        Set<String> names = new TreeSet<>();
        for (String f : FACE) {
            names.add(f.substring(0, f.indexOf(' ')));
        }
        for (Method m : LayoutSolver.class.getDeclaredMethods()) {
            if (!Modifier.isPublic(m.getModifiers())) {
                Check.due(m + " is private", Modifier.isPrivate(m.getModifiers()) ? 1 : 0, 1);
                Check.due(m + " bears a public name", names.contains(m.getName()) ? 1 : 0, 0);
            }
        }
        for (Class<?> inside : LayoutSolver.class.getDeclaredClasses()) {
            Check.due(inside + " is static", Modifier.isStatic(inside.getModifiers()) ? 1 : 0, 1);
            for (Method m : inside.getDeclaredMethods()) {
                Check.due(m + " bears a public name", names.contains(m.getName()) ? 1 : 0, 0);
            }
            for (Field f : inside.getDeclaredFields()) {
                boolean isState = Modifier.isStatic(f.getModifiers()) && !Modifier.isFinal(f.getModifiers());
                Check.due(f + " is static state", isState ? 1 : 0, 0);
            }
        }
    }

    /** An exception would end the test. */
    private static void anyArguments() throws Exception {
        long seed = 1;
        for (int run = 0; run < 300; run++) {
            LayoutSolver x = run % 2 == 0 ? new LayoutSolver() : Check.layout("a<5", "a-2b=1@s", "3c+d>9@w2", "a=9@m");
            Method[] methods = LayoutSolver.class.getMethods();
            java.util.Arrays.sort(methods, (a, b) -> a.getName().compareTo(b.getName()));
            for (int call = 0; call < 600; call++) {
                seed = seed * 6364136223846793005L + 1442695040888963407L;
                Method m = methods[(int) ((seed >>> 33) % methods.length)];
                if (m.getDeclaringClass() != LayoutSolver.class) continue;
                Object[] arguments = new Object[m.getParameterCount()];
                for (int i = 0; i < arguments.length; i++) {
                    seed = seed * 6364136223846793005L + 1442695040888963407L;
                    arguments[i] = ANY[(int) ((seed >>> 33) % ANY.length)];
                }
                m.invoke(x, arguments);
            }
        }
    }

    private static void afterTheLastCall() {
        LayoutSolver x = new LayoutSolver();
        for (int i = 0; i < 2000; i++) {
            x.term(i % 6, i % 7 - 3);
            x.add(i % 3, i % 100, i % 4, 1 + i % 5);
            x.low(i % 6, 0);
            x.remove(i % 14);
        }
    }
}
