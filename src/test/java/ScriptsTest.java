/** Promises 45 to 48: scripts. */
public final class ScriptsTest {
    public static void main(String[] args) {
        type();
        everyCommand();
        numbers();
        errorPositions();
        failedCommands();
        oneChange();
        latestOnes();
        fullBuffers();
        Check.end();
    }

    private static void type() {
        CoolingPlanner p = new CoolingPlanner();
        Check.refused("45: 31", Check.ARGUMENT, () -> p.type((char) 31));
        Check.refused("45: 127", Check.ARGUMENT, () -> p.type((char) 127));
        Check.refused("45: 0", Check.ARGUMENT, () -> p.type((char) 0));
        Check.refused("45: 65535", Check.ARGUMENT, () -> p.type((char) 65535));
        for (int i = 1; i <= 60; i++) {
            Check.same("45: length", i, p.type(i % 2 == 0 ? (char) 32 : (char) 126));
        }
        Check.refused("45: full", Check.STATE, () -> p.type('a'));
        Check.refused("45: code before full", Check.ARGUMENT, () -> p.type((char) 31));
        Check.refused("46: no script", Check.ARGUMENT, () -> p.runScript());
        Check.same("47: at the start", 0, p.errorPosition());
        Check.same("45: empty again", 1, p.type('a'));
    }

    private static void everyCommand() {
        CoolingPlanner p = new CoolingPlanner();
        Check.same("46: rack", 3, Check.run(p, "rack 0 1 5;rack 1 2 6;rack 3 5 20"));
        Check.same("46: rack, aisle", 1, p.aisleOf(1));
        Check.same("46: rack, place", 2, p.placeOf(1));
        Check.same("46: rack, load", 6, p.load(1));
        Check.same("46: drop", 1, Check.run(p, "drop 0"));
        Check.same("46: drop, racks", 2, p.rackCount());
        Check.same("46: shift", 1, Check.run(p, "shift 1 2 4"));
        Check.same("46: shift, rack", 1, p.rackAt(2, 4));
        Check.same("46: load", 1, Check.run(p, "load 1 9"));
        Check.same("46: load, rack", 9, p.load(1));
        Check.same("46: send", 1, Check.run(p, "send 1 0 2"));
        Check.same("46: send, giver", 7, p.load(1));
        Check.same("46: send, taker", 8, p.load(0));
        Check.same("46: fan", 1, Check.run(p, "fan 3 10"));
        Check.same("46: fan, speed", 10, p.fanSpeed(3));
        Check.same("46: curve", 1, Check.run(p, "curve 2 199"));
        Check.same("46: curve, point", 199, p.curvePoint(2));
        Check.same("46: limit", 1, Check.run(p, "limit 33"));
        Check.same("46: limit, degrees", 33, p.limit());
        Check.same("46: wait", 1, Check.run(p, "wait"));
        Check.same("46: wait, minute", 1, p.minute());
        Check.same("46: wait with a number", 2, Check.run(p, "wait 60;wait"));
        Check.same("46: wait, minutes", 62, p.minute());
    }

    private static void numbers() {
        CoolingPlanner p = new CoolingPlanner();
        Check.same("46: leading zeros", 3, Check.run(p, "rack 0 0 007;load 000 20;wait 01"));
        Check.same("46: load", 20, p.load(0));
        Check.same("46: minute", 1, p.minute());
        Check.refused("46: three digits", Check.STATE, () -> Check.run(p, "load 0 999"));
        Check.same("48: load 999", 0, p.failedCommand());
    }

    private static void error(String script, int due) {
        CoolingPlanner p = new CoolingPlanner();
        p.addRack(0, 0, 1);
        Check.refused("46: '" + script + "'", Check.ARGUMENT, () -> Check.run(p, script));
        Check.same("47: '" + script + "'", due, p.errorPosition());
        Check.refused("48: '" + script + "'", Check.ELEMENT, () -> p.failedCommand());
        Check.same("46: nothing happens in '" + script + "'", 0, p.undo());
        Check.same("46: empty after '" + script + "'", 1, p.type(' '));
    }

    private static void errorPositions() {
        error("", 0);
        error(" ", 0);
        error("x", 0);
        error("Rack 0 0 0", 0);
        error("1", 0);
        error(";", 0);
        error("r", 1);
        error("rock", 1);
        error("rack", 4);
        error("rack;", 4);
        error("rack  0", 5);
        error("rack x", 5);
        error("rack 12", 6);
        error("rack 0 12", 8);
        error("rack 1 0", 8);
        error("rack 1 0 ", 9);
        error("rack 1 0 ;", 9);
        error("rack 1 0 1234", 12);
        error("rack 1 0 1 ", 10);
        error("rack 1 0 -1", 9);
        error("lo", 2);
        error("lx", 1);
        error("li", 2);
        error("lim 20", 3);
        error("load 1", 6);
        error("load 1;", 6);
        error("load 1234 5", 8);
        error("limit 27 1", 8);
        error("s", 1);
        error("sx", 1);
        error("sh", 2);
        error("se", 2);
        error("send 0 1", 8);
        error("send 0 1 ", 9);
        error("shift 0 1 2x", 11);
        error("shift 0 10 2", 9);
        error("shift 100 1 23", 13);
        error("fan 1 ", 6);
        error("fan 11 2", 5);
        error("curve 0", 7);
        error("curve 0 1 2", 9);
        error("drop", 4);
        error("drop 1 ", 6);
        error("wai", 3);
        error("wait ", 5);
        error("wait x", 5);
        error("wait;", 5);
        error("waiting", 4);
        error("wait 1234", 8);
        error("wait 1 ", 6);
        error("wait 1;", 7);
        error("wait;;wait", 5);
        error("wait; wait", 5);
        error("wait ;wait", 5);
        error("wait;drop 0;rick", 13);
    }

    private static void failure(String script, int due) {
        CoolingPlanner p = new CoolingPlanner();
        p.addRack(0, 0, 1);
        Check.refused("46: '" + script + "'", Check.STATE, () -> Check.run(p, script));
        Check.same("48: '" + script + "'", due, p.failedCommand());
        Check.refused("47: '" + script + "'", Check.ELEMENT, () -> p.errorPosition());
        Check.same("46: nothing stays of '" + script + "'", 0, p.minute());
        Check.same("46: no rack stays of '" + script + "'", 1, p.rackCount());
        Check.same("46: no load stays of '" + script + "'", 1, p.load(0));
        Check.same("46: no change is '" + script + "'", 0, p.undo());
        Check.same("46: empty after '" + script + "'", 1, p.type(' '));
    }

    private static void failedCommands() {
        failure("rack 4 0 0", 0);
        failure("rack 0 6 0", 0);
        failure("rack 0 1 21", 0);
        failure("rack 0 0 1", 0);
        failure("wait;rack 0 1 5;rack 0 1 5", 2);
        failure("drop 1", 0);
        failure("drop 0;drop 0", 1);
        failure("shift 0 0 0", 0);
        failure("shift 1 0 1", 0);
        failure("load 0 2;load 0 21", 1);
        failure("load 1 2", 0);
        failure("send 0 0 1", 0);
        failure("rack 1 0 0;send 0 1 2", 1);
        failure("fan 4 0", 0);
        failure("fan 0 11", 0);
        failure("curve 3 0", 0);
        failure("curve 0 201", 0);
        failure("curve 0 51", 0);
        failure("limit 19", 0);
        failure("limit 61", 0);
        failure("wait 0", 0);
        failure("wait 61", 0);
        failure("wait;wait 60;wait 61;wait 61", 2);
        for (int i = 1; i < 12; i++) {
            tooManyRacks(i);
        }
    }

    private static void tooManyRacks(int racksBefore) {
        CoolingPlanner p = new CoolingPlanner();
        for (int i = 0; i < 12; i++) {
            p.addRack(i % 4, i / 4, 0);
        }
        for (int i = 0; i < racksBefore % 4; i++) {
            p.removeRack(0);
        }
        int room = racksBefore % 4;
        Check.refused("46: too many racks", Check.STATE,
                () -> Check.run(p, "rack 0 5 1;rack 1 5 1;rack 2 5 1;rack 3 5 1"));
        Check.same("48: too many racks", room, p.failedCommand());
        Check.same("46: as many as before", 12 - room, p.rackCount());
    }

    private static void oneChange() {
        CoolingPlanner p = new CoolingPlanner();
        p.addRack(0, 0, 1);
        Check.same("46: three commands", 3, Check.run(p, "load 0 7;wait 9;limit 40"));
        Check.same("49: one change", 1, p.undo());
        Check.same("49: load", 1, p.load(0));
        Check.same("49: minute", 0, p.minute());
        Check.same("49: limit", 27, p.limit());
        Check.same("49: the rack", 0, p.undo());
    }

    private static void latestOnes() {
        CoolingPlanner p = new CoolingPlanner();
        Check.refused("47: none yet", Check.ELEMENT, () -> p.errorPosition());
        Check.refused("48: none yet", Check.ELEMENT, () -> p.failedCommand());
        Check.refused("46: form", Check.ARGUMENT, () -> Check.run(p, "wait x"));
        Check.refused("46: command", Check.STATE, () -> Check.run(p, "wait;drop 0"));
        Check.same("47: of the latest without form", 5, p.errorPosition());
        Check.same("48: of the latest that failed", 1, p.failedCommand());
        Check.same("46: a good one", 1, Check.run(p, "wait"));
        p.save();
        p.undo();
        p.restore();
        Check.same("47: stays", 5, p.errorPosition());
        Check.same("48: stays", 1, p.failedCommand());
        Check.refused("46: form again", Check.ARGUMENT, () -> Check.run(p, "wax"));
        Check.refused("46: command again", Check.STATE, () -> Check.run(p, "drop 0"));
        Check.same("47: replaced", 2, p.errorPosition());
        Check.same("48: replaced", 0, p.failedCommand());
    }

    private static void fullBuffers() {
        CoolingPlanner p = new CoolingPlanner();
        Check.same("46: twelve", 12, Check.run(p, "wait;wait;wait;wait;wait;wait;wait;wait;wait;wait;wait;wait"));
        Check.same("46: minutes", 12, p.minute());
        String sixty = "wait;wait;wait;wait;wait;wait;wait;wait;wait;wait;wait;wait;";
        Check.same("46: as long as can be", 60, sixty.length());
        Check.refused("46: cut off", Check.ARGUMENT, () -> Check.run(p, sixty));
        Check.same("47: cut off", 60, p.errorPosition());
        p.addRack(0, 0, 1);
        Check.same("46: sixty characters", 11,
                Check.run(p, "wait;wait;wait;wait;wait;wait;wait;wait;wait;wait;load 0 007"));
        Check.same("46: the last command", 7, p.load(0));
    }
}
