import java.lang.reflect.InvocationTargetException;
import java.lang.reflect.Method;
import java.lang.reflect.Modifier;
import java.util.Arrays;
import java.util.HashMap;
import java.util.List;
import java.util.Map;
import java.util.TreeMap;

/**
 * Long runs of calls, chosen by a fixed rule, on the program and on the model: both must answer alike.
 * Arguments: how many runs, the number of the first one, and "told" to list how often which answer came.
 */
final class ModelTest {
    private static final int RUNS = 600;
    /** Behind these there are some 90 calls at the end: nothing is promised of an object behind its 512th call. */
    private static final int CALLS = 420;
    private static final String EDITS = "addLayer setLook setPassing setChange setOffset lock move remove setMask "
            + "fill fillMask stroke blur paintFrom select selectLike grow feather invert play ";
    private static final String[] NAMES = {
        "addLayer", "addLayer", "addLayer", "setLook", "setLook", "setLook", "setPassing", "setChange", "setOffset", "lock",
        "move", "move", "remove", "setMask", "setMask", "fill", "fill", "fill", "fill", "fill", "fillMask", "fillMask",
        "stroke", "stroke", "stroke", "blur", "paintFrom", "paintFrom",
        "select", "select", "selectLike", "selectLike", "grow", "feather", "invert", "selected", "selected",
        "undo", "redo", "redo", "go", "state", "states", "sum", "record", "stop", "play", "play",
        "value", "value", "value", "value", "alpha", "alpha", "valueAnew", "setKept", "rendered", "rendered",
        "palette", "palette", "paletteError", "cover", "mean", "isConsistent",
    };

    private static final Map<String, Method> OF_PROGRAM = methodsOf(Palettehouse.class);
    private static final Map<String, Method> OF_MODEL = methodsOf(Model.class);
    private static final Map<String, Integer> ANSWERS = new TreeMap<>();

    private final Palettehouse house = new Palettehouse();
    private final Model model = new Model();
    private long seed;

    public static void main(String[] args) throws Exception {
        int runs = args.length > 0 ? Integer.parseInt(args[0]) : RUNS;
        int from = args.length > 1 ? Integer.parseInt(args[1]) : 0;
        for (int run = from; run < from + runs; run++) {
            new ModelTest().run(run);
        }
        if (args.length > 2) {
            System.out.println(ANSWERS);
        }
        Check.end();
    }

    private static Map<String, Method> methodsOf(Class<?> type) {
        Map<String, Method> methods = new HashMap<>();
        for (Method method : type.getDeclaredMethods()) {
            if (!Modifier.isPrivate(method.getModifiers())) {
                method.setAccessible(true);
                methods.put(method.getName(), method);
            }
        }
        return methods;
    }

    private void run(int number) throws Exception {
        seed = 1000003L * number + 17;
        // There is room for 59 edits only: in many runs most other calls are looks and ways between states.
        int looksBetween = number % 4 * 3;
        for (int call = 0; call < CALLS; call++) {
            String name = call < 3 ? "addLayer" : NAMES[next(NAMES.length)];
            if (call > 8 && EDITS.contains(name + " ") && next(1 + looksBetween) > 0) {
                name = next(3) > 0 ? "value" : "rendered";
            }
            Object[] args = argsOf(name);
            Object due = answer(OF_MODEL.get(name), model, args);
            Object got = answer(OF_PROGRAM.get(name), house, args);
            String told = "run " + number + ", call " + call + ": " + name + Arrays.toString(args);
            Check.isTrue(told + " answered " + got + ", due is " + due, due.equals(got));
            if (!due.equals(got)) {
                return;
            }
        }
        atTheEnd("run " + number + " at its end");
    }

    private void atTheEnd(String told) {
        boolean isAlike = model.sum() == house.sum() && model.state() == house.state() && house.isConsistent();
        for (int i = 0; i < 256 && isAlike; i += 3) {
            isAlike = model.valueAnew(i % 16, i / 16) == house.valueAnew(i % 16, i / 16);
        }
        Check.isTrue(told + ": the states are not alike", isAlike);
    }

    private static Object answer(Method method, Object object, Object[] args) throws Exception {
        Object answer;
        try {
            answer = method.invoke(object, args);
        } catch (InvocationTargetException e) {
            RuntimeException thrown = (RuntimeException) e.getCause();
            boolean isOfMachine = object instanceof Palettehouse && !Check.isOfProgram(thrown);
            answer = (isOfMachine ? "the machine's " : "") + thrown.getClass().getName();
        }
        ANSWERS.merge(method.getName() + (answer instanceof String ? " " + answer : ""), 1, Integer::sum);
        return answer;
    }

    private int next(int bound) {
        seed = seed * 6364136223846793005L + 1442695040888963407L;
        return (int) ((seed >>> 33) % bound);
    }

    /** From least to most; seldom a number beside them. */
    private int number(int least, int most) {
        if (next(80) == 0) {
            return next(2) == 0 ? least - 1 - next(3) : most + 1 + next(3);
        }
        return least + next(most - least + 1);
    }

    /** Often one of few, so that pixels are like one another. */
    private int level() {
        return next(2) == 0 ? number(0, 255) : 85 * next(4);
    }

    private int alphaLevel() {
        return next(2) == 0 ? 255 : level();
    }

    private int layer(char kind) {
        List<Integer> fitting = model.layersOf(kind);
        return next(16) == 0 || fitting.isEmpty() ? number(0, 20) : fitting.get(next(fitting.size()));
    }

    private int group() {
        return next(3) == 0 || model.layersOf('g').isEmpty() ? -1 : layer('g');
    }

    private int aState() {
        return number(0, model.states() - 1);
    }

    private char sign(String signs) {
        return next(50) == 0 ? (char) next(300) : signs.charAt(next(signs.length()));
    }

    private boolean truth() {
        return next(2) == 0;
    }

    private int offset() {
        return number(-15, 15) / (1 + next(4));
    }

    private Object[] argsOf(String name) {
        switch (name) {
            case "addLayer":
                return new Object[] {sign("pppgga"), group()};
            case "setLook":
                return new Object[] {layer('*'), alphaLevel(), sign("nmsadkl"), next(4) > 0};
            case "setPassing":
                return new Object[] {layer('g'), truth()};
            case "lock":
                return new Object[] {layer('p'), next(3) == 0};
            case "setMask":
                return new Object[] {layer('*'), next(4) > 0};
            case "setChange":
                return new Object[] {layer('a'), sign("itl"), number(0, 120), number(100, 255)};
            case "setOffset":
                return new Object[] {layer('p'), offset(), offset()};
            case "move":
                return new Object[] {layer('*'), number(0, 2)};
            case "remove":
                return new Object[] {next(2) == 0 ? layer('*') : 40};
            case "fill":
                return new Object[] {layer('p'), number(0, 255) / (1 + next(9)), number(1, 16), number(1, 16), level(), alphaLevel()};
            case "fillMask":
                return new Object[] {layer('m'), number(0, 255), number(1, 16), number(1, 16), level()};
            case "stroke":
                return new Object[] {layer('p'), number(0, 255), number(0, 255), number(1, 4), number(1, 9), level(), alphaLevel()};
            case "blur":
                return new Object[] {layer('p'), number(1, 2)};
            case "paintFrom":
                return new Object[] {layer('p'), aState(), number(0, 255), number(1, 16)};
            case "select":
                return new Object[] {number(0, 255) / (1 + next(9)), number(1, 16), number(1, 16), sign("raaasi")};
            case "selectLike":
                return new Object[] {layer('p'), number(0, 255), next(2) == 0 ? next(90) : number(0, 255), truth()};
            case "grow":
                return new Object[] {next(2) == 0 ? number(1, 3) : number(-3, 3)};
            case "redo":
                return new Object[] {next(3) == 0 ? number(0, 2) : 0};
            case "go":
                return new Object[] {next(2) == 0 ? model.states() - 1 : aState()};
            case "play":
                return new Object[] {number(0, 2), layer('p')};
            case "selected":
            case "value":
            case "alpha":
            case "valueAnew":
                return new Object[] {number(0, 15), number(0, 15)};
            case "setKept":
                return new Object[] {number(1, 16)};
            case "palette":
                return new Object[] {number(1, 8), number(0, 7)};
            case "paletteError":
                return new Object[] {number(1, 8)};
            default:
                return new Object[0];
        }
    }
}
