import java.lang.reflect.InvocationTargetException;
import java.lang.reflect.Method;
import java.util.ArrayList;
import java.util.Arrays;
import java.util.Comparator;
import java.util.List;

/** Long mixed runs of calls, on the program and on the model: the answers must be the same. */
public final class ModelTest {
    private static final int RUNS = 400;
    private static final int CALLS = 512;
    private static final String[] CHANGES = {"addNoise", "addNoise", "addNoise", "advance", "advance", "advance",
        "setGear", "setMesh", "clearWheel", "clearWheel", "releaseNoise", "removeNoise", "shipSacks", "undo",
        "save", "restore", "script", "script"};
    private static final String[] SCRIPTS = {"noise %d %d %d", "noise %d %d %d;step", "drop %d", "gear %d %d",
        "mesh %d %d", "clear %d", "release %d", "ship %d %d", "step %d", "step;step;clear %d", "gear 0 5;step %d",
        "noise %d %d %d;clear 0;step %d;ship 0 1", "noise %d %d %d;noise %d %d %d;step %d;undo", "step %d;drop %d",
        "clear 0;clear 1;clear 2;step 5;mesh %d %d", "step %d;", "noise %d %d %d%d"};

    private final List<Method> methods = new ArrayList<>();
    private final NoiseMill mill = new NoiseMill();
    private final Model model = new Model();
    private final StringBuilder calls = new StringBuilder();
    private final Checks checks;
    private final boolean slow;
    private long seed;
    private int made = 0;

    private ModelTest(Checks checks, int run) {
        this.checks = checks;
        this.seed = run * 7919L + 17;
        this.slow = run % 3 == 0;
        methods.addAll(Arrays.asList(NoiseMill.class.getMethods()));
        methods.removeIf(method -> method.getDeclaringClass() != NoiseMill.class);
        methods.sort(Comparator.comparing(Method::getName));
    }

    public static void main(String[] args) throws Exception {
        Checks checks = new Checks();
        for (int run = 0; run < RUNS; run++) {
            new ModelTest(checks, run).run(run);
        }
        checks.end();
    }

    /** A plain generator with a fixed start, so that every run of the test makes the same calls. */
    private int below(int bound) {
        seed = seed * 6364136223846793005L + 1442695040888963407L;
        return (int) ((seed >>> 33) % bound);
    }

    private void run(int run) throws Exception {
        boolean same = true;
        while (same && made < CALLS - 70) {
            same = below(2) == 0 ? change(CHANGES[below(CHANGES.length)]) : ask();
        }
        while (same && made < CALLS) {
            same = ask();
        }
        checks.equal("run " + run + (same ? "" : ": " + calls), same, true);
    }

    private boolean ask() throws Exception {
        Method method = methods.get(below(methods.size()));
        return call(method, arguments(method));
    }

    private boolean change(String name) throws Exception {
        if (name.equals("script")) {
            return script();
        }
        if (name.equals("restore") && below(3) > 0) {
            return true;
        }
        for (Method method : methods) {
            if (method.getName().equals(name)) {
                return call(method, arguments(method));
            }
        }
        throw new IllegalStateException(name);
    }

    private boolean script() throws Exception {
        Object[] digits = new Object[8];
        for (int index = 0; index < digits.length; index++) {
            digits[index] = below(below(3) == 0 ? 10 : 4);
        }
        String script = String.format(SCRIPTS[below(SCRIPTS.length)], digits);
        if (below(8) == 0) {
            script = script.substring(0, below(script.length()));
        }
        Method type = NoiseMill.class.getMethod("type", char.class);
        for (char character : script.toCharArray()) {
            if (!call(type, new Object[] {character})) {
                return false;
            }
        }
        return call(NoiseMill.class.getMethod("runScript"), new Object[0]);
    }

    private Object[] arguments(Method method) {
        Object[] arguments = new Object[method.getParameterCount()];
        for (int index = 0; index < arguments.length; index++) {
            if (method.getParameterTypes()[index] == char.class) {
                arguments[index] = (char) (below(20) == 0 ? below(65536) : 32 + below(95));
            } else {
                arguments[index] = number(method.getName(), index);
            }
        }
        return arguments;
    }

    private int number(String name, int index) {
        if (below(60) == 0) {
            return Mills.FAR_INTS[below(Mills.FAR_INTS.length)];
        }
        switch (name) {
            case "addNoise": return below(40) == 0 ? -1 + below(65) : new int[] {below(8), 1 + below(9),
                1 + below(60)}[index];
            case "advance": return slow ? 1 + below(3) : below(6) == 0 ? below(43) : 1 + below(5);
            case "groundWithin": return below(63) - 1;
            case "setGear": return below(index == 0 ? 4 : 7) - (index == 0 && below(8) > 0 ? 0 : below(2));
            case "setMesh": return index == 0 ? below(8) : below(3) == 0 ? below(11) : below(4);
            case "shipSacks": return index == 0 ? below(5) - below(2) : 1 + below(3);
            case "outputAt": return below(22) - 1;
            case "removeNoise": case "rankOf": case "exists": case "band": case "loudness": case "amount":
            case "isWaiting": case "wheelOf": return Math.max(-1, made / 12 - below(25));
            case "waitingAt": return below(13) - 1;
            default: return below(10) - 1 < 8 && below(4) > 0 ? below(4) : below(11) - 1;
        }
    }

    private boolean call(Method method, Object[] arguments) throws Exception {
        made++;
        Object due = answer(Model.class.getMethod(method.getName(), method.getParameterTypes()), model, arguments);
        Object got = answer(method, mill, arguments);
        calls.append('\n').append(method.getName()).append(Arrays.toString(arguments)).append(" = ").append(got);
        if (got.equals(due)) {
            return true;
        }
        calls.append(", due is ").append(due);
        return false;
    }

    private static Object answer(Method method, Object object, Object[] arguments) throws Exception {
        try {
            method.setAccessible(true);
            return method.invoke(object, arguments);
        } catch (InvocationTargetException e) {
            return e.getCause().getClass().getName();
        }
    }
}
