import java.util.NoSuchElementException;

/** Compares answers with those that are due, prints each that differs, and ends the test with 1 if there was one. */
final class Check {
    static final Class<IndexOutOfBoundsException> INDEX = IndexOutOfBoundsException.class;
    static final Class<IllegalArgumentException> ARGUMENT = IllegalArgumentException.class;
    static final Class<IllegalStateException> STATE = IllegalStateException.class;
    static final Class<UnsupportedOperationException> UNSUPPORTED = UnsupportedOperationException.class;
    static final Class<NoSuchElementException> ELEMENT = NoSuchElementException.class;
    static final Class<ArithmeticException> ARITHMETIC = ArithmeticException.class;

    private static int checks = 0;
    private static int wrong = 0;

    private Check() {
    }

    /** A call whose answer or exception is checked. */
    interface Call {
        Object answer();
    }

    /** A call with the argument whose bounds are checked. */
    interface IntCall {
        Object answer(int argument);
    }

    static void same(String what, Object due, Object answer) {
        checks++;
        if (!due.equals(answer)) {
            wrong++;
            System.out.println(what + " answered " + answer + ", due is " + due);
        }
    }

    static void refused(String what, Class<? extends RuntimeException> due, Call call) {
        same(what, due, answerOf(call));
    }

    /** The least argument that is allowed, with its answer; one less, and the least of all, are refused. */
    static void lowest(String what, int bound, Object answer, Class<? extends RuntimeException> due, IntCall call) {
        allowed(what, bound, answer, call);
        refused(what + " " + (bound - 1), due, () -> call.answer(bound - 1));
        refused(what + " of the least int", due, () -> call.answer(Integer.MIN_VALUE));
    }

    /** The greatest argument that is allowed, with its answer; one more, and the greatest of all, are refused. */
    static void highest(String what, int bound, Object answer, Class<? extends RuntimeException> due, IntCall call) {
        allowed(what, bound, answer, call);
        refused(what + " " + (bound + 1), due, () -> call.answer(bound + 1));
        refused(what + " of the greatest int", due, () -> call.answer(Integer.MAX_VALUE));
        refused(what + " of 65536 more", due, () -> call.answer(bound + 65536));
    }

    private static void allowed(String what, int argument, Object due, IntCall call) {
        same(what + " " + argument, due, answerOf(() -> call.answer(argument)));
    }

    /** The answer of a call, or the class of what it throws. */
    static Object answerOf(Call call) {
        try {
            return call.answer();
        } catch (RuntimeException e) {
            return e.getClass();
        }
    }

    static void type(CoolingPlanner planner, String text) {
        for (char character : text.toCharArray()) {
            planner.type(character);
        }
    }

    static int run(CoolingPlanner planner, String text) {
        type(planner, text);
        return planner.runScript();
    }

    /** The output text, read character by character up to the length. */
    static String output(CoolingPlanner planner, int length) {
        StringBuilder text = new StringBuilder();
        for (int i = 0; i < length; i++) {
            text.append(planner.outputAt(i));
        }
        return text.toString();
    }

    static void end() {
        System.out.println(checks + " answers checked, " + wrong + " wrong");
        if (wrong != 0 || checks == 0) {
            System.exit(1);
        }
    }
}
