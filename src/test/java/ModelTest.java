import java.lang.reflect.InvocationTargetException;
import java.lang.reflect.Method;
import java.util.ArrayList;
import java.util.Arrays;
import java.util.Comparator;
import java.util.List;

/** All promises: many runs of calls, the same in each execution, on the program and on the model. */
public final class ModelTest {
    private static final int RUNS = 3000;
    private static final int CALLS = 512;
    private static final String[] WORDS = {"rack ", "drop ", "shift ", "load ", "send ", "fan ", "curve ", "limit ",
        "wait", "wait "};
    private static final int[] NUMBERS_OF_WORDS = {3, 1, 3, 2, 3, 2, 2, 1, 0, 1};

    private static long seed = 20261119;
    private static long compared = 0;
    private static long exceptions = 0;

    public static void main(String[] args) throws Exception {
        List<Method> methods = new ArrayList<>();
        for (Method method : CoolingPlanner.class.getDeclaredMethods()) {
            if (java.lang.reflect.Modifier.isPublic(method.getModifiers())) {
                methods.add(method);
            }
        }
        methods.sort(Comparator.comparing(Method::getName));
        for (int run = 0; run < RUNS; run++) {
            run(run, methods);
        }
        System.out.println(compared + " answers compared, " + exceptions + " of them exceptions");
    }

    /** A number from 0 to below, by a generator that is always the same. */
    private static int pick(int below) {
        seed = seed * 6364136223846793005L + 1442695040888963407L;
        return (int) ((seed >>> 33) % below);
    }

    private static void run(int run, List<Method> methods) throws Exception {
        CoolingPlanner planner = new CoolingPlanner();
        Model model = new Model();
        StringBuilder told = new StringBuilder();
        int calls = 0;
        int changeWeight = 1 + pick(6);
        while (calls < CALLS - 70) {
            if (pick(25) == 0) {
                String script = script();
                for (char character : script.toCharArray()) {
                    calls++;
                    compare(run, told, planner, model, CoolingPlanner.class.getMethod("type", char.class), character);
                }
                calls++;
                compare(run, told, planner, model, CoolingPlanner.class.getMethod("runScript"));
                continue;
            }
            Method method = methods.get(pick(methods.size()));
            String name = method.getName();
            if (pick(10) < changeWeight) {
                String[] changes = {"addRack", "addRack", "removeRack", "moveRack", "setLoad", "setLoad", "migrate",
                    "setFan", "setFan", "setCurvePoint", "setLimit", "advance", "advance", "undo", "save", "restore"};
                method = named(methods, changes[pick(changes.length)]);
            } else if ((name.equals("runScript") || name.equals("restore") || name.equals("type")) && pick(4) != 0) {
                continue;
            }
            calls++;
            compare(run, told, planner, model, method, arguments(method));
        }
    }

    private static Method named(List<Method> methods, String name) {
        for (Method method : methods) {
            if (method.getName().equals(name)) {
                return method;
            }
        }
        throw new IllegalArgumentException(name);
    }

    private static Object[] arguments(Method method) {
        Object[] arguments = new Object[method.getParameterCount()];
        for (int i = 0; i < arguments.length; i++) {
            if (method.getParameterTypes()[i] == char.class) {
                arguments[i] = (char) (pick(8) == 0 ? pick(65536) : 30 + pick(100));
            } else {
                arguments[i] = argument(method.getName(), i);
            }
        }
        return arguments;
    }

    private static int argument(String method, int parameter) {
        if (pick(60) == 0) {
            int[] extremes = {Integer.MIN_VALUE, Integer.MAX_VALUE, -1, 256, 65536};
            return extremes[pick(extremes.length)];
        }
        return switch (method + parameter) {
            case "addRack2", "setLoad1" -> pick(23) - 1;
            case "setCurvePoint1" -> pick(3) == 0 ? pick(204) - 1 : pick(30);
            case "setCurvePoint0", "curvePoint0" -> pick(5) - 1;
            case "setLimit0" -> pick(2) == 0 ? 18 + pick(45) : 20 + pick(10);
            case "advance0" -> pick(3) == 0 ? pick(63) - 1 : pick(4);
            case "setFan1", "airflowAt0" -> pick(13) - 1;
            case "addRack1", "moveRack2", "rackAt1" -> pick(8) - 1;
            case "addRack0", "moveRack1", "rackAt0", "setFan0", "heat0", "fanSpeed0", "inletTemperature0", "rise0",
                "neededSpeed0", "neededSpeedBySearch0", "aisleByHeat0", "storedHeat0", "renderAisle0" -> pick(6) - 1;
            case "outputAt0" -> pick(20) - 1;
            default -> pick(4) == 0 ? pick(14) - 1 : pick(5);
        };
    }

    private static String script() {
        StringBuilder script = new StringBuilder();
        int commands = 1 + pick(7);
        for (int i = 0; i < commands; i++) {
            int word = pick(WORDS.length);
            script.append(i == 0 ? "" : ";").append(WORDS[word]);
            for (int number = 0; number < NUMBERS_OF_WORDS[word]; number++) {
                script.append(number == 0 ? "" : " ").append(number(word, number));
            }
        }
        for (int i = pick(3); i == 2 && script.length() > 0 && pick(3) != 0;) {
            mutate(script);
        }
        return script.substring(0, Math.min(script.length(), pick(6) == 0 ? pick(61) : 60));
    }

    private static String number(int word, int number) {
        return switch (WORDS[word] + number) {
            case "rack 2", "load 1" -> pick(20) == 0 ? "021" : String.valueOf(pick(21));
            case "limit 0" -> String.valueOf(20 + pick(12));
            case "wait 0" -> String.valueOf(pick(30) == 0 ? 61 : 1 + pick(12));
            case "curve 0", "fan 0" -> String.valueOf(pick(3));
            case "curve 1" -> String.valueOf(pick(130));
            default -> String.valueOf(pick(4));
        };
    }

    private static void mutate(StringBuilder script) {
        int position = pick(script.length());
        String signs = " ;0129aefilnrstw";
        char sign = signs.charAt(pick(signs.length()));
        switch (pick(3)) {
            case 0 -> script.insert(position, sign);
            case 1 -> script.setCharAt(position, sign);
            default -> script.deleteCharAt(position);
        }
    }

    private static void compare(int run, StringBuilder told, Object planner, Object model, Method method,
            Object... arguments) throws Exception {
        Method ofModel = Model.class.getDeclaredMethod(method.getName(), method.getParameterTypes());
        Object due = answer(ofModel, model, arguments);
        Object got = answer(method, planner, arguments);
        told.append(method.getName()).append(Arrays.toString(arguments)).append(" = ").append(got).append('\n');
        compared++;
        exceptions += due instanceof Class ? 1 : 0;
        if (!due.equals(got)) {
            System.out.print("run " + run + ":\n" + told);
            System.out.println("due is " + due);
            System.exit(1);
        }
    }

    private static Object answer(Method method, Object target, Object[] arguments) throws Exception {
        try {
            return method.invoke(target, arguments);
        } catch (InvocationTargetException e) {
            return e.getCause().getClass();
        }
    }
}
