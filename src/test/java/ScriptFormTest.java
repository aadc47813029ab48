import java.util.function.Function;

/** The form of scripts, character by character, and each command against the method that it stands for. */
public final class ScriptFormTest {
    private static final String[] SCRIPTS = {"rack 0 9 123", "drop 012", "shift 987 6 5", "load 4 32", "load 999 1",
        "send 0 11 222", "fan 3 10", "curve 2 200", "limit 60", "wait", "wait 60", "wait;wait 1;fan 0 0;drop 7",
        "curve 0 0;limit 20;send 1 2 3;shift 1 2 3", "load 1 2;rack 3 4 5;wait;wait 123",
        "wait;wait;wait;wait;wait;wait;wait;wait;wait;wait;wait;wait"};

    public static void main(String[] args) {
        everyCharacterEverywhere();
        cutOff();
        numbersOfDigits();
        digits();
        missingAndDoubleSigns();
        beginnings();
        lastPositions();
        commandsAndMethods();
        waits();
        inOrder();
        positionsOfTheLatest();
        Check.end();
    }

    /** Runs a script on a new planner and answers its error position, or -1 if it has the required form. */
    private static int errorPosition(String script) {
        CoolingPlanner p = new CoolingPlanner();
        Object answer = Check.answerOf(() -> Check.run(p, script));
        if (answer != Check.ARGUMENT) {
            Check.refused("47: none for '" + script + "'", Check.ELEMENT, () -> p.errorPosition());
            return -1;
        }
        Check.refused("48: none for '" + script + "'", Check.ELEMENT, () -> p.failedCommand());
        return p.errorPosition();
    }

    private static int modelsErrorPosition(String script) {
        Model model = new Model();
        for (char character : script.toCharArray()) {
            model.type(character);
        }
        return Check.answerOf(() -> model.runScript()) == Check.ARGUMENT ? model.errorPosition() : -1;
    }

    private static void everyCharacterEverywhere() {
        for (String script : SCRIPTS) {
            for (int length = 0; length <= script.length() && length < 60; length++) {
                for (char character = 32; character <= 126; character++) {
                    String text = script.substring(0, length) + character;
                    Check.same("46, 47: '" + text + "'", modelsErrorPosition(text), errorPosition(text));
                }
            }
        }
    }

    /** A beginning of a script either is one or has its length as the error position, whatever stands behind it. */
    private static void cutOff() {
        for (String script : SCRIPTS) {
            Check.same("46: '" + script + "'", -1, errorPosition(script));
            for (int length = 0; length < script.length(); length++) {
                String text = script.substring(0, length);
                boolean whole = modelsErrorPosition(text) == -1;
                Check.same("47: '" + text + "'", whole ? -1 : length, errorPosition(text));
                if (length < 60) {
                    Check.same("47: '" + text + "~'", length, errorPosition(text + "~"));
                }
            }
        }
    }

    private static void numbersOfDigits() {
        String[] heads = {"drop ", "limit ", "wait ", "load 1 ", "fan 1 ", "curve 1 ", "rack 1 1 ", "send 1 1 "};
        for (String head : heads) {
            int end = head.length();
            Check.same("47: no digit behind " + head, end, errorPosition(head));
            Check.same("47: no digit but ; behind " + head, end, errorPosition(head + ";"));
            Check.same("46: a digit behind " + head, -1, errorPosition(head + "0"));
            Check.same("46: two digits behind " + head, -1, errorPosition(head + "00"));
            Check.same("46: three digits behind " + head, -1, errorPosition(head + "000"));
            Check.same("47: four digits behind " + head, end + 3, errorPosition(head + "0000"));
        }
        for (String head : new String[] {"shift ", "load ", "send ", "send 1 "}) {
            int end = head.length();
            String tail = head.equals("load ") || head.equals("send 1 ") ? " 1" : " 1 1";
            Check.same("47: no digit behind " + head, end, errorPosition(head + tail));
            Check.same("46: a digit behind " + head, -1, errorPosition(head + "9" + tail));
            Check.same("46: three digits behind " + head, -1, errorPosition(head + "999" + tail));
            Check.same("47: four digits behind " + head, end + 3, errorPosition(head + "9999" + tail));
        }
        Check.same("47: two digits for an aisle", 6, errorPosition("rack 00 1 1"));
        Check.same("47: two digits for a place", 8, errorPosition("rack 0 01 1"));
        Check.same("47: two digits for a fan", 5, errorPosition("fan 00 1"));
        Check.same("47: two digits for a point", 7, errorPosition("curve 00 1"));
        Check.same("47: two digits for an aisle to move to", 9, errorPosition("shift 1 00 1"));
        Check.same("47: two digits for a place to move to", 11, errorPosition("shift 1 0 01"));
    }

    /** The characters beside 0 and 9 are no digits. */
    private static void digits() {
        for (char digit = '0'; digit <= '9'; digit++) {
            Check.same("46: fan " + digit, -1, errorPosition("fan " + digit + " 1"));
            Check.same("46: drop " + digit, -1, errorPosition("drop " + digit));
        }
        for (char other : new char[] {'/', ':', '-', '+', '.', 'a', ' '}) {
            Check.same("47: fan " + other, 4, errorPosition("fan " + other + " 1"));
            Check.same("47: drop " + other, 5, errorPosition("drop " + other));
            Check.same("47: drop 1" + other, 6, errorPosition("drop 1" + other));
            Check.same("47: drop 12" + other, 7, errorPosition("drop 12" + other));
        }
    }

    private static void missingAndDoubleSigns() {
        Check.same("47: a space first", 0, errorPosition(" wait"));
        Check.same("47: a space last", 5, errorPosition("wait "));
        Check.same("47: two spaces", 5, errorPosition("wait  1"));
        Check.same("47: a space behind a number", 6, errorPosition("wait 1 "));
        Check.same("47: a space before ;", 5, errorPosition("wait ;wait"));
        Check.same("47: a space behind ;", 5, errorPosition("wait; wait"));
        Check.same("47: ; first", 0, errorPosition(";wait"));
        Check.same("47: ; last", 5, errorPosition("wait;"));
        Check.same("47: two ;", 5, errorPosition("wait;;wait"));
        Check.same("47: no ;", 4, errorPosition("waitwait"));
        Check.same("47: no space", 4, errorPosition("wait1"));
        Check.same("47: a large letter", 0, errorPosition("Wait"));
        Check.same("47: a large letter inside", 3, errorPosition("waiT"));
        Check.same("47: one number too many", 8, errorPosition("wait 012 1"));
        Check.same("47: one number too many for drop", 6, errorPosition("drop 1 1"));
        Check.same("47: one number too few for load", 6, errorPosition("load 1;wait"));
    }

    /** The commands begin with seven letters; behind l and s, two can follow. */
    private static void beginnings() {
        for (char first = 'a'; first <= 'z'; first++) {
            boolean can = "rdslfcw".indexOf(first) >= 0;
            Check.same("47: " + first, can ? 1 : 0, errorPosition(first + "~"));
            Check.same("47: l" + first, first == 'o' || first == 'i' ? 2 : 1, errorPosition("l" + first + "~"));
            Check.same("47: s" + first, first == 'h' || first == 'e' ? 2 : 1, errorPosition("s" + first + "~"));
        }
    }

    /** The last character of a full buffer, and the end of it. */
    private static void lastPositions() {
        String head = "wait;".repeat(11);
        Check.same("46: 59 characters", -1, errorPosition(head + "wait"));
        Check.same("47: the 60th cannot continue", 59, errorPosition(head + "wait1"));
        Check.same("47: the 60th could", 60, errorPosition(head + "wait "));
        Check.same("47: the 60th could, too", 60, errorPosition(head + "limit"));
        Check.same("47: the 59th cannot continue", 58, errorPosition(head + "waix1"));
        Check.same("46: 60 characters", -1, errorPosition("wait;".repeat(10) + "load 0 001"));
    }

    private static void asMethod(String script, Function<CoolingPlanner, Object> method) {
        CoolingPlanner byScript = Planners.ladenWithoutScript();
        CoolingPlanner byMethod = Planners.ladenWithoutScript();
        Check.same("46: '" + script + "'", 1, Check.run(byScript, script));
        method.apply(byMethod);
        Check.same("46: the state after '" + script + "'", Planners.state(byMethod), Planners.state(byScript));
        Check.same("46: a change, '" + script + "'", 7, byScript.undo());
        byMethod.undo();
        Check.same("49: the state before '" + script + "'", Planners.state(byMethod), Planners.state(byScript));
    }

    /** With the least and the greatest numbers; the racks are 20 kilowatts at 1.1, 20 at 2.2 and 0 at 3.5. */
    private static void commandsAndMethods() {
        asMethod("rack 0 0 0", p -> p.addRack(0, 0, 0));
        asMethod("rack 3 4 20", p -> p.addRack(3, 4, 20));
        asMethod("rack 2 5 007", p -> p.addRack(2, 5, 7));
        asMethod("drop 0", p -> p.removeRack(0));
        asMethod("drop 002", p -> p.removeRack(2));
        asMethod("shift 0 3 0", p -> p.moveRack(0, 3, 0));
        asMethod("shift 2 0 5", p -> p.moveRack(2, 0, 5));
        asMethod("load 2 20", p -> p.setLoad(2, 20));
        asMethod("load 0 0", p -> p.setLoad(0, 0));
        asMethod("send 0 2 1", p -> p.migrate(0, 2, 1));
        asMethod("send 1 2 20", p -> p.migrate(1, 2, 20));
        asMethod("fan 0 10", p -> p.setFan(0, 10));
        asMethod("fan 3 0", p -> p.setFan(3, 0));
        asMethod("curve 0 40", p -> p.setCurvePoint(0, 40));
        asMethod("curve 1 0", p -> p.setCurvePoint(1, 0));
        asMethod("curve 2 200", p -> p.setCurvePoint(2, 200));
        asMethod("limit 20", p -> p.setLimit(20));
        asMethod("limit 060", p -> p.setLimit(60));
    }

    private static void waits() {
        asMethod("wait", p -> p.advance(1));
        asMethod("wait 1", p -> p.advance(1));
        asMethod("wait 60", p -> p.advance(60));
        CoolingPlanner p = new CoolingPlanner();
        Check.refused("46: wait 0", Check.STATE, () -> Check.run(p, "wait 0"));
        Check.refused("46: wait 61", Check.STATE, () -> Check.run(p, "wait 61"));
        Check.same("46: more than 60 in one script", 3, Check.run(p, "wait 60;wait 60;wait 1"));
        Check.same("35: minute", 121, p.minute());
    }

    /** A command finds what the ones before it did, and the racks have their new indices. */
    private static void inOrder() {
        CoolingPlanner p = new CoolingPlanner();
        Check.same("46: a rack and its load", 3, Check.run(p, "rack 0 0 5;load 0 9;rack 1 0 3"));
        Check.same("46: the next one's index", 3, Check.run(p, "drop 0;load 0 8;rack 0 0 1"));
        Check.same("14: the first one now", 8, p.load(0));
        Check.same("14: the second one now", 1, p.load(1));
        Check.refused("46: too early", Check.STATE, () -> Check.run(p, "load 2 1;rack 3 3 3"));
        Check.same("46: to and fro", 4, Check.run(p, "send 0 1 8;send 1 0 9;fan 0 0;wait 2"));
        Check.same("14: all of it", 9, p.load(0));
        Check.same("33: nothing is stored there", 0, p.storedHeat(0));
        Check.same("46: a point makes room for the next", 2, Check.run(p, "curve 2 200;curve 1 200"));
        Check.refused("46: not the other way round", Check.STATE, () -> Check.run(p, "curve 2 100;curve 1 100"));
        Check.same("48: the first of the two", 0, p.failedCommand());
    }

    /** Each position is that of the latest script with such an error, whatever other scripts came behind it. */
    private static void positionsOfTheLatest() {
        CoolingPlanner p = new CoolingPlanner();
        Check.refused("46: form", Check.ARGUMENT, () -> Check.run(p, "wait;wait;"));
        Check.same("47: 10", "10 " + Check.ELEMENT, Planners.positions(p));
        Check.refused("46: command", Check.STATE, () -> Check.run(p, "wait;wait;drop 0"));
        Check.same("48: 2", "10 2", Planners.positions(p));
        Check.refused("46: form, at the start", Check.ARGUMENT, () -> p.runScript());
        Check.same("47: 0", "0 2", Planners.positions(p));
        Check.refused("46: command, the first", Check.STATE, () -> Check.run(p, "drop 0;wait"));
        Check.same("48: 0", "0 0", Planners.positions(p));
        Check.same("46: a good one", 2, Check.run(p, "wait;wait"));
        Check.same("47, 48: stay", "0 0", Planners.positions(p));
        Check.same("35: minutes of the good one alone", 2, p.minute());
    }
}
