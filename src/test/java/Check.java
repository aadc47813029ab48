import java.util.NoSuchElementException;

/** Compares answers with those that are due, prints each that differs, and ends the test with 1 if there was one. */
final class Check {
    static final Class<IndexOutOfBoundsException> INDEX = IndexOutOfBoundsException.class;
    static final Class<IllegalArgumentException> ARGUMENT = IllegalArgumentException.class;
    static final Class<IllegalStateException> STATE = IllegalStateException.class;
    static final Class<UnsupportedOperationException> UNSUPPORTED = UnsupportedOperationException.class;
    static final Class<NoSuchElementException> ELEMENT = NoSuchElementException.class;
    static final Class<ArithmeticException> ARITHMETIC = ArithmeticException.class;

    private static int checks = 0;
    private static int wrong = 0;

    private Check() {
    }

    /** A call whose answer or exception is checked. */
    interface Call {
        Object answer();
    }

    static void same(String what, Object due, Object answer) {
        checks++;
        if (!due.equals(answer)) {
            wrong++;
            System.out.println(what + " answered " + answer + ", due is " + due);
        }
    }

    static void refused(String what, Class<? extends RuntimeException> due, Call call) {
        Object answer;
        try {
            answer = call.answer();
        } catch (RuntimeException e) {
            answer = e.getClass();
        }
        same(what, due, answer);
    }

    static void type(CoolingPlanner planner, String text) {
        for (char character : text.toCharArray()) {
            planner.type(character);
        }
    }

    static int run(CoolingPlanner planner, String text) {
        type(planner, text);
        return planner.runScript();
    }

    /** The output text, read character by character up to the length. */
    static String output(CoolingPlanner planner, int length) {
        StringBuilder text = new StringBuilder();
        for (int i = 0; i < length; i++) {
            text.append(planner.outputAt(i));
        }
        return text.toString();
    }

    static void end() {
        System.out.println(checks + " answers checked, " + wrong + " wrong");
        if (wrong != 0 || checks == 0) {
            System.exit(1);
        }
    }
}
