import java.lang.reflect.InvocationTargetException;
import java.lang.reflect.Method;
import java.lang.reflect.Modifier;
import java.util.ArrayList;
import java.util.HashMap;
import java.util.List;
import java.util.Map;

/** Long runs of calls, the same on a Cubequarry and on a Model: each answer and exception alike. */
final class ModelRuns {
    private static final int RUNS = 400;
    private static final int CALLS = 511;

    /** A method, and how each of its arguments is chosen (a letter each, see choose). */
    private static final String[] CALLED = {
        "eighths ct", "eighths ct", "eighths ct", "units cu", "units cu", "zero cb", "endless cb",
        "row Rr", "copy cc", "copy cc", "step cs", "step cs", "turn c", "root cc", "root cc", "root cc",
        "root cc", "cube cc", "cube cc", "cube cc", "twice cc", "half cc", "eightfold cc", "all h",
        "end bc", "sort ", "kind c", "of c", "isBelow c", "whole ck", "whole ck", "decimals cd",
        "height c", "digits c", "upper c", "lower c", "text c", "order cc", "isAlike cc", "isNear cc",
        "most cc", "isWithin cc", "find cb", "rank c", "rootWhole Sk", "wholePart n", "isCube t",
        "rootOfCube a", "product pp", "ways n", "way ni", "twoWays nm", "stepsUp nM", "nextStep N",
        "rises btM", "opposite t", "eight t", "comesNear t", "below tMyk", "house w", "knock ",
        "isSound ", "digest "};

    private static final Map<String, Method> OF_CUBEQUARRY = methods(Cubequarry.class);
    private static final Map<String, Method> OF_MODEL = methods(Model.class);

    private static long seed = 20261120;

    private static int below(int bound) {
        seed = seed * 6364136223846793005L + 1442695040888963407L;
        return (int) ((seed >>> 33) % bound);
    }

    private static int from(int least, int most) {
        return least + below(most - least + 1);
    }

    private static int cubeOrSmall() {
        int a = from(-40, 40);
        return below(2) == 0 ? a * a * a : a;
    }

    private static int edge(int least, int most) {
        switch (below(12)) {
            case 0:
                return least + from(-1, 1);
            case 1:
                return most + from(-1, 1);
            case 2:
                return Math.max(least, Math.min(most, 0));
            case 3:
                return below(40) == 0 ? Integer.MIN_VALUE : Integer.MAX_VALUE - below(3);
            default:
                return from(least, most);
        }
    }

    private static int eighths() {
        switch (below(4)) {
            case 0:
                return edge(-65535, 65535);
            case 1:
                return 8 * from(-100, 100);
            default:
                return cubeOrSmall();
        }
    }

    private static Object choose(char what) {
        switch (what) {
            case 'b': return below(2) == 0;
            case 'c': return below(40) == 0 ? from(-2, 9) : below(8);
            case 't': return eighths();
            case 'u': return below(2) == 0 ? cubeOrSmall() : edge(-65535, 65535);
            case 'R': return below(2) == 0 ? from(-500, 500) : edge(-65535, 65535);
            case 'r': return below(2) == 0 ? from(-8, 8) : edge(-8192, 8192);
            case 's': return below(2) == 0 ? from(-9, 9) : edge(-65535, 65535);
            case 'h': return from(0, 6);
            case 'k': return below(20) == 0 ? from(-22, 42) : from(-20, 40);
            case 'd': return below(20) == 0 ? from(-1, 4) : from(0, 3);
            case 'S': return below(3) == 0 ? 8 * edge(-65535, 65535) + below(2) : eighths();
            case 'n': return below(2) == 0 ? Math.abs(cubeOrSmall()) : edge(0, 65535);
            case 'i': return below(2) == 0 ? below(3) : from(-1, 10);
            case 'a': return edge(0, 208000);
            case 'p': return edge(-128, 128);
            case 'm': return edge(0, 100);
            case 'M': return edge(0, 200);
            case 'N': return edge(0, 8000);
            case 'y': return below(2) == 0 ? from(-300, 300) : (int) (seed >>> below(32));
            case 'w': return from(-1, 5);
            default: throw new AssertionError("no such argument: " + what);
        }
    }

    private static Map<String, Method> methods(Class<?> face) {
        Map<String, Method> methods = new HashMap<>();
        for (Method method : face.getDeclaredMethods()) {
            if (Modifier.isPublic(method.getModifiers())) {
                methods.put(method.getName(), method);
            }
        }
        return methods;
    }

    private static Object answer(Map<String, Method> methods, Object x, String name, Object[] arguments)
            throws IllegalAccessException {
        try {
            return methods.get(name).invoke(x, arguments);
        } catch (InvocationTargetException e) {
            return "throws." + e.getCause().getClass().getSimpleName();
        }
    }

    private static void call(Cubequarry x, Model model, String called) throws IllegalAccessException {
        int blank = called.indexOf(' ');
        String name = called.substring(0, blank);
        List<Object> arguments = new ArrayList<>();
        for (char what : called.substring(blank + 1).toCharArray()) {
            arguments.add(choose(what));
        }
        Object[] given = arguments.toArray();
        Check.is(name + arguments, answer(OF_CUBEQUARRY, x, name, given), answer(OF_MODEL, model, name, given));
    }

    public static void main(String[] args) throws IllegalAccessException {
        for (int run = 0; run < RUNS; run++) {
            Check.place("run " + run);
            Cubequarry x = new Cubequarry();
            Model model = new Model();
            for (int i = 0; i < CALLS; i++) {
                // Runs of acts alone come to states that mixed runs do not.
                String called = CALLED[below(run % 2 == 0 ? 26 : CALLED.length)];
                call(x, model, called);
                if (i % 8 == 7) {
                    i++;
                    call(x, model, "digest ");
                }
            }
        }
        Check.done("ModelRuns");
    }
}
