import java.util.function.Function;
import java.util.function.Supplier;

/**
 * Each exception in each way in which it comes about, the one that is due where several apply, and that a refused call
 * changes nothing: all that can be asked of the planner is the same behind it.
 */
public final class RefusedTest {
    private static final int LEAST = Integer.MIN_VALUE;
    private static final int MOST = Integer.MAX_VALUE;

    public static void main(String[] args) {
        addRack();
        addRackToTwelve();
        addRackForSeveralReasons();
        removeRack();
        moveRack();
        moveRackForSeveralReasons();
        setLoad();
        migrate();
        migrateForSeveralReasons();
        setFan();
        setCurvePoint();
        setCurvePointForSeveralReasons();
        setLimitAndAdvance();
        queriesOfRacks();
        queriesOfAisles();
        rackAt();
        rackAtForSeveralReasons();
        hotAtEverySpeed();
        neverHot();
        ranks();
        withoutRacks();
        output();
        type();
        typeForSeveralReasons();
        runScriptWithoutForm();
        runScriptThatFails();
        runScriptForSeveralReasons();
        positionsThatAreNotThere();
        undo();
        restore();
        Check.end();
    }

    private static void refused(Supplier<CoolingPlanner> maker, String what, Class<? extends RuntimeException> due,
            Function<CoolingPlanner, Object> call) {
        Supplier<CoolingPlanner> behind = () -> {
            CoolingPlanner p = maker.get();
            Check.refused(what, due, () -> call.apply(p));
            return p;
        };
        Check.same(what + " changes nothing", Planners.everything(maker), Planners.everything(behind));
    }

    private static void refused(String what, Class<? extends RuntimeException> due,
            Function<CoolingPlanner, Object> call) {
        refused(Planners::laden, what, due, call);
    }

    private static void addRack() {
        for (int aisle : new int[] {-1, 4, LEAST, MOST}) {
            refused("2: aisle " + aisle, Check.INDEX, p -> p.addRack(aisle, 0, 1));
        }
        for (int place : new int[] {-1, 6, LEAST, MOST}) {
            refused("2: place " + place, Check.ARGUMENT, p -> p.addRack(0, place, 1));
        }
        for (int load : new int[] {-1, 21, LEAST, MOST}) {
            refused("2: load " + load, Check.ARGUMENT, p -> p.addRack(0, 0, load));
        }
        refused("2: the place of the first rack", Check.UNSUPPORTED, p -> p.addRack(1, 1, 1));
        refused("2: the place of the last rack", Check.UNSUPPORTED, p -> p.addRack(3, 5, 0));
    }

    private static void addRackToTwelve() {
        refused(Planners::ladenAndFull, "2: a thirteenth", Check.STATE, p -> p.addRack(0, 5, 1));
        refused(Planners::crowded, "2: a thirteenth in an aisle without racks", Check.STATE, p -> p.addRack(3, 0, 0));
    }

    private static void addRackForSeveralReasons() {
        refused("2: aisle and place", Check.INDEX, p -> p.addRack(4, 6, 1));
        refused("2: aisle and load", Check.INDEX, p -> p.addRack(-1, 0, 21));
        refused("2: aisle, place and load", Check.INDEX, p -> p.addRack(-1, -1, -1));
        refused("2: place and load", Check.ARGUMENT, p -> p.addRack(0, 6, 21));
        refused("2: load and a rack at the place", Check.ARGUMENT, p -> p.addRack(1, 1, 21));
        Supplier<CoolingPlanner> full = Planners::ladenAndFull;
        refused(full, "2: aisle and twelve racks", Check.INDEX, p -> p.addRack(4, 5, 1));
        refused(full, "2: place and twelve racks", Check.ARGUMENT, p -> p.addRack(0, -1, 1));
        refused(full, "2: load and twelve racks", Check.ARGUMENT, p -> p.addRack(0, 5, -1));
        refused(full, "2: twelve racks and one at the place", Check.STATE, p -> p.addRack(0, 0, 1));
        refused(full, "2: load, twelve racks and one at the place", Check.ARGUMENT, p -> p.addRack(0, 0, 21));
        refused(full, "2: all but the place", Check.INDEX, p -> p.addRack(4, 0, 21));
    }

    private static void removeRack() {
        for (int rack : new int[] {-1, 3, 12, LEAST, MOST}) {
            refused("3: rack " + rack, Check.INDEX, p -> p.removeRack(rack));
        }
        refused(CoolingPlanner::new, "3: no racks", Check.INDEX, p -> p.removeRack(0));
        refused(Planners::ladenAndFull, "3: rack 12 of twelve", Check.INDEX, p -> p.removeRack(12));
    }

    private static void moveRack() {
        for (int rack : new int[] {-1, 3, LEAST, MOST}) {
            refused("4: rack " + rack, Check.INDEX, p -> p.moveRack(rack, 0, 0));
        }
        for (int aisle : new int[] {-1, 4, LEAST, MOST}) {
            refused("4: aisle " + aisle, Check.INDEX, p -> p.moveRack(0, aisle, 0));
        }
        for (int place : new int[] {-1, 6, LEAST, MOST}) {
            refused("4: place " + place, Check.ARGUMENT, p -> p.moveRack(0, 0, place));
        }
        refused("4: another rack's place", Check.UNSUPPORTED, p -> p.moveRack(0, 3, 5));
        refused("4: an earlier rack's place", Check.UNSUPPORTED, p -> p.moveRack(2, 1, 1));
        refused("4: its own place", Check.UNSUPPORTED, p -> p.moveRack(1, 2, 2));
    }

    private static void moveRackForSeveralReasons() {
        refused("4: rack and aisle", Check.INDEX, p -> p.moveRack(3, 4, 0));
        refused("4: rack and place", Check.INDEX, p -> p.moveRack(3, 0, 6));
        refused("4: aisle and place", Check.INDEX, p -> p.moveRack(0, 4, -1));
        refused("4: rack, aisle and place", Check.INDEX, p -> p.moveRack(-1, -1, -1));
        refused("4: rack and a rack at the place", Check.INDEX, p -> p.moveRack(3, 1, 1));
    }

    private static void setLoad() {
        for (int rack : new int[] {-1, 3, LEAST, MOST}) {
            refused("5: rack " + rack, Check.INDEX, p -> p.setLoad(rack, 1));
        }
        for (int load : new int[] {-1, 21, LEAST, MOST}) {
            refused("5: load " + load, Check.ARGUMENT, p -> p.setLoad(2, load));
        }
        refused("5: rack and load", Check.INDEX, p -> p.setLoad(3, 21));
        refused("5: rack and load below", Check.INDEX, p -> p.setLoad(-1, -1));
    }

    private static void migrate() {
        for (int rack : new int[] {-1, 3, LEAST, MOST}) {
            refused("6: from " + rack, Check.INDEX, p -> p.migrate(rack, 2, 1));
            refused("6: to " + rack, Check.INDEX, p -> p.migrate(0, rack, 1));
        }
        for (int rack = 0; rack < 3; rack++) {
            int same = rack;
            refused("6: from and to " + same, Check.ARGUMENT, p -> p.migrate(same, same, 1));
        }
        for (int load : new int[] {0, -1, 21, LEAST, MOST}) {
            refused("6: load " + load, Check.ARGUMENT, p -> p.migrate(0, 2, load));
        }
        refused("6: the first has nothing", Check.UNSUPPORTED, p -> p.migrate(2, 0, 1));
        refused("6: the second would have 21", Check.UNSUPPORTED, p -> p.migrate(0, 1, 1));
        refused(Planners::ladenAndFull, "6: the first has one less", Check.UNSUPPORTED, p -> p.migrate(6, 0, 8));
        refused(Planners::ladenAndFull, "6: one too many for the second", Check.UNSUPPORTED, p -> p.migrate(9, 10, 10));
    }

    private static void migrateForSeveralReasons() {
        refused("6: both racks", Check.INDEX, p -> p.migrate(3, -1, 1));
        refused("6: no such rack, twice the same", Check.INDEX, p -> p.migrate(3, 3, 1));
        refused("6: from and load", Check.INDEX, p -> p.migrate(3, 0, 0));
        refused("6: to and load", Check.INDEX, p -> p.migrate(0, 3, 21));
        refused("6: from and the second is full", Check.INDEX, p -> p.migrate(-1, 0, 1));
        refused("6: to and the first has nothing", Check.INDEX, p -> p.migrate(2, 3, 1));
        refused("6: the same and load", Check.ARGUMENT, p -> p.migrate(0, 0, 0));
        refused("6: the same and it has nothing", Check.ARGUMENT, p -> p.migrate(2, 2, 1));
        refused("6: the same and it is full", Check.ARGUMENT, p -> p.migrate(0, 0, 20));
        refused("6: load and the first has less", Check.ARGUMENT, p -> p.migrate(2, 0, 21));
        refused("6: load and the second is full", Check.ARGUMENT, p -> p.migrate(0, 1, 21));
        refused("6: the first has nothing, the second is full", Check.UNSUPPORTED, p -> p.migrate(2, 1, 20));
    }

    private static void setFan() {
        for (int aisle : new int[] {-1, 4, LEAST, MOST}) {
            refused("7: aisle " + aisle, Check.INDEX, p -> p.setFan(aisle, 3));
        }
        for (int speed : new int[] {-1, 11, LEAST, MOST}) {
            refused("7: speed " + speed, Check.ARGUMENT, p -> p.setFan(2, speed));
        }
        refused("7: aisle and speed", Check.INDEX, p -> p.setFan(4, 11));
        refused("7: aisle and speed below", Check.INDEX, p -> p.setFan(-1, -1));
    }

    /** The curve of laden() is 0, 40, 80. */
    private static void setCurvePoint() {
        for (int point : new int[] {-1, 3, LEAST, MOST}) {
            refused("8: point " + point, Check.INDEX, p -> p.setCurvePoint(point, 40));
        }
        for (int airflow : new int[] {-1, 201, LEAST, MOST}) {
            refused("8: airflow " + airflow, Check.ARGUMENT, p -> p.setCurvePoint(airflow < 0 ? 0 : 2, airflow));
        }
        refused("8: point 0 above point 1", Check.UNSUPPORTED, p -> p.setCurvePoint(0, 41));
        refused("8: point 1 above point 2", Check.UNSUPPORTED, p -> p.setCurvePoint(1, 81));
        refused("8: point 2 below point 1", Check.UNSUPPORTED, p -> p.setCurvePoint(2, 39));
        refused(RefusedTest::withHighFirstPoint, "8: point 1 below point 0", Check.UNSUPPORTED,
                p -> p.setCurvePoint(1, 39));
    }

    private static CoolingPlanner withHighFirstPoint() {
        CoolingPlanner p = Planners.laden();
        p.setCurvePoint(0, 40);
        return p;
    }

    private static void setCurvePointForSeveralReasons() {
        refused("8: point and airflow", Check.INDEX, p -> p.setCurvePoint(3, 201));
        refused("8: point below and airflow", Check.INDEX, p -> p.setCurvePoint(-1, -1));
        refused("8: airflow, and point 0 above point 1", Check.ARGUMENT, p -> p.setCurvePoint(0, 201));
        refused("8: airflow, and point 1 above point 2", Check.ARGUMENT, p -> p.setCurvePoint(1, 201));
        refused("8: airflow, and point 1 below point 0", Check.ARGUMENT, p -> p.setCurvePoint(1, -1));
        refused("8: airflow, and point 2 below point 1", Check.ARGUMENT, p -> p.setCurvePoint(2, -1));
    }

    private static void setLimitAndAdvance() {
        for (int limit : new int[] {19, 61, 0, -1, LEAST, MOST}) {
            refused("9: limit " + limit, Check.ARGUMENT, p -> p.setLimit(limit));
        }
        for (int minutes : new int[] {0, 61, -1, LEAST, MOST}) {
            refused("10: minutes " + minutes, Check.ARGUMENT, p -> p.advance(minutes));
        }
    }

    private static void queriesOfRacks() {
        for (int rack : new int[] {-1, 3, 12, LEAST, MOST}) {
            refused("12: rack " + rack, Check.INDEX, p -> p.aisleOf(rack));
            refused("13: rack " + rack, Check.INDEX, p -> p.placeOf(rack));
            refused("14: rack " + rack, Check.INDEX, p -> p.load(rack));
            refused("24: rack " + rack, Check.INDEX, p -> p.temperature(rack));
            refused("25: rack " + rack, Check.INDEX, p -> p.isHot(rack));
            refused("30: rack " + rack, Check.INDEX, p -> p.minutesUntilHot(rack));
            refused("42: rack " + rack, Check.INDEX, p -> p.renderRack(rack));
        }
    }

    private static void queriesOfAisles() {
        for (int aisle : new int[] {-1, 4, LEAST, MOST}) {
            refused("16: aisle " + aisle, Check.INDEX, p -> p.heat(aisle));
            refused("19: aisle " + aisle, Check.INDEX, p -> p.fanSpeed(aisle));
            refused("22: aisle " + aisle, Check.INDEX, p -> p.inletTemperature(aisle));
            refused("23: aisle " + aisle, Check.INDEX, p -> p.rise(aisle));
            refused("28: aisle " + aisle, Check.INDEX, p -> p.neededSpeed(aisle));
            refused("29: aisle " + aisle, Check.INDEX, p -> p.neededSpeedBySearch(aisle));
            refused("33: aisle " + aisle, Check.INDEX, p -> p.storedHeat(aisle));
            refused("43: aisle " + aisle, Check.INDEX, p -> p.renderAisle(aisle));
        }
        for (int point : new int[] {-1, 3, LEAST, MOST}) {
            refused("20: point " + point, Check.INDEX, p -> p.curvePoint(point));
        }
        for (int speed : new int[] {-1, 11, LEAST, MOST}) {
            refused("21: speed " + speed, Check.ARGUMENT, p -> p.airflowAt(speed));
        }
    }

    private static void rackAt() {
        for (int aisle : new int[] {-1, 4, LEAST, MOST}) {
            refused("15: aisle " + aisle, Check.INDEX, p -> p.rackAt(aisle, 1));
        }
        for (int place : new int[] {-1, 6, LEAST, MOST}) {
            refused("15: place " + place, Check.ARGUMENT, p -> p.rackAt(1, place));
        }
        refused("15: a free place beside a rack", Check.ELEMENT, p -> p.rackAt(1, 2));
        refused("15: the place of the removed rack", Check.ELEMENT, p -> p.rackAt(0, 0));
        refused(CoolingPlanner::new, "15: no racks", Check.ELEMENT, p -> p.rackAt(0, 0));
    }

    private static void rackAtForSeveralReasons() {
        refused("15: aisle and place", Check.INDEX, p -> p.rackAt(4, 6));
        refused("15: aisle and place below", Check.INDEX, p -> p.rackAt(-1, -1));
        refused("15: no rack can stand in an aisle that is not there", Check.INDEX, p -> p.rackAt(4, 0));
        refused("15: no rack can stand at a place that is not there", Check.ARGUMENT, p -> p.rackAt(0, 6));
    }

    private static void hotAtEverySpeed() {
        refused(RefusedTest::hot, "28: hot at every speed", Check.ELEMENT, p -> p.neededSpeed(0));
        refused(RefusedTest::hot, "29: hot at every speed", Check.ELEMENT, p -> p.neededSpeedBySearch(1));
        refused(RefusedTest::hot, "28: aisle 4 all the same", Check.INDEX, p -> p.neededSpeed(4));
        refused(RefusedTest::hot, "29: aisle -1 all the same", Check.INDEX, p -> p.neededSpeedBySearch(-1));
    }

    private static CoolingPlanner hot() {
        CoolingPlanner p = Planners.crowded();
        p.setLimit(21);
        return p;
    }

    private static void neverHot() {
        refused(RefusedTest::cool, "30: never hot", Check.ELEMENT, p -> p.minutesUntilHot(0));
        refused(RefusedTest::cool, "30: no rack, never hot", Check.INDEX, p -> p.minutesUntilHot(3));
    }

    private static CoolingPlanner cool() {
        CoolingPlanner p = Planners.laden();
        p.setLimit(60);
        return p;
    }

    private static void ranks() {
        for (int rank : new int[] {-1, 3, 12, LEAST, MOST}) {
            refused("31: rank " + rank, Check.ELEMENT, p -> p.rackByTemperature(rank));
        }
        for (int rank : new int[] {-1, 4, LEAST, MOST}) {
            refused("32: rank " + rank, Check.ELEMENT, p -> p.aisleByHeat(rank));
        }
        refused(CoolingPlanner::new, "31: rank 0 of none", Check.ELEMENT, p -> p.rackByTemperature(0));
    }

    private static void withoutRacks() {
        refused(CoolingPlanner::new, "39: no racks yet", Check.ARITHMETIC, p -> p.meanTemperature());
        refused(CoolingPlanner::new, "40: no racks yet", Check.ARITHMETIC, p -> p.hotShare());
        refused(RefusedTest::emptied, "39: no racks any more", Check.ARITHMETIC, p -> p.meanTemperature());
        refused(RefusedTest::emptied, "40: no racks any more", Check.ARITHMETIC, p -> p.hotShare());
    }

    private static CoolingPlanner emptied() {
        CoolingPlanner p = Planners.laden();
        for (int left = 2; left >= 0; left--) {
            p.removeRack(0);
        }
        return p;
    }

    private static void output() {
        for (int index : new int[] {-1, "1@2.2:20!".length(), 20, LEAST, MOST}) {
            refused("44: index " + index, Check.INDEX, p -> p.outputAt(index));
        }
        refused(CoolingPlanner::new, "44: the empty text", Check.INDEX, p -> p.outputAt(0));
    }

    private static void type() {
        for (int code : new int[] {0, 31, 127, 255, 256 + 'w', 65535}) {
            refused("45: the character " + code, Check.ARGUMENT, p -> p.type((char) code));
        }
        refused(RefusedTest::withFullBuffer, "45: a full buffer", Check.STATE, p -> p.type(' '));
    }

    private static CoolingPlanner withFullBuffer() {
        CoolingPlanner p = Planners.laden();
        Check.type(p, "0" + ";wait".repeat(9) + ";wait 1");
        return p;
    }

    private static void typeForSeveralReasons() {
        refused(RefusedTest::withFullBuffer, "45: 31 and a full buffer", Check.ARGUMENT, p -> p.type((char) 31));
        refused(RefusedTest::withFullBuffer, "45: 127 and a full buffer", Check.ARGUMENT, p -> p.type((char) 127));
    }

    /** Runs a script that is refused: only the buffer, which is then empty, and a position are not as they were. */
    private static void script(Supplier<CoolingPlanner> start, String script, Class<? extends RuntimeException> due,
            String positions) {
        Supplier<CoolingPlanner> behind = () -> {
            CoolingPlanner p = start.get();
            Check.refused("46: '" + script + "'", due, () -> Check.run(p, script));
            return p;
        };
        String what = "46: '" + script + "', ";
        Check.same(what + "all that undo covers", Planners.covered(start), Planners.covered(behind));
        Check.same(what + "the output", Planners.output(start.get()), Planners.output(behind.get()));
        Check.same(what + "the positions", positions, Planners.positions(behind.get()));
        Check.same(what + "the empty buffer", 1, behind.get().type('w'));
        Check.same(what + "the next script", 1, Check.run(behind.get(), "wait"));
    }

    private static void script(String script, Class<? extends RuntimeException> due, String positions) {
        script(Planners::ladenWithoutScript, script, due, positions);
    }

    /** The index of the failed command stays 1. */
    private static void runScriptWithoutForm() {
        script("", Check.ARGUMENT, "0 1");
        script(" ", Check.ARGUMENT, "0 1");
        script("wai", Check.ARGUMENT, "3 1");
        script("wait;", Check.ARGUMENT, "5 1");
        script("wait;wait;x", Check.ARGUMENT, "10 1");
        script("limit 40;load 0 1234", Check.ARGUMENT, "19 1");
        script("wait;".repeat(12), Check.ARGUMENT, "60 1");
        script("wait;".repeat(11) + "wait ", Check.ARGUMENT, "60 1");
        script("wait;".repeat(11) + "waitx", Check.ARGUMENT, "59 1");
    }

    /** Each exception of each command's method, alone and behind commands that could be executed. */
    private static void runScriptThatFails() {
        String[] commands = {"rack 4 0 1", "rack 9 0 1", "rack 0 6 1", "rack 0 9 1", "rack 0 0 21", "rack 0 0 999",
            "rack 1 1 1", "drop 3", "drop 999", "shift 3 0 0", "shift 0 4 0", "shift 0 0 6", "shift 0 1 1",
            "shift 0 2 2", "load 3 1", "load 0 21", "send 3 2 1", "send 0 3 1", "send 0 0 1", "send 0 2 0",
            "send 0 2 21", "send 2 0 1", "send 0 1 1", "fan 4 1", "fan 0 11", "curve 3 80", "curve 2 201",
            "curve 0 41", "curve 2 39", "limit 19", "limit 61", "limit 0", "wait 0", "wait 000", "wait 61", "wait 999"};
        for (String command : commands) {
            script(command, Check.STATE, "2 0");
            script("limit 44;wait 2;" + command, Check.STATE, "2 2");
            script("fan 1 3;" + command + ";limit 45", Check.STATE, "2 1");
        }
        script(Planners::ladenAndFull, "rack 0 5 1", Check.STATE, "2 0");
        script(Planners::ladenAndFull, "drop 0;rack 0 5 1;rack 1 5 1;drop 0", Check.STATE, "2 2");
        script("wait;".repeat(10) + "wait 0", Check.STATE, "2 10");
    }

    private static void runScriptForSeveralReasons() {
        script("drop 9;x", Check.ARGUMENT, "7 1");
        script("limit 61;limit 61;", Check.ARGUMENT, "18 1");
        script("wait 0;wait 0", Check.STATE, "2 0");
        script("wait;wait 0;drop 9;limit 0", Check.STATE, "2 1");
    }

    private static void positionsThatAreNotThere() {
        refused(CoolingPlanner::new, "47: no script", Check.ELEMENT, p -> p.errorPosition());
        refused(CoolingPlanner::new, "48: no script", Check.ELEMENT, p -> p.failedCommand());
        refused(RefusedTest::withGoodScript, "47: no script without form", Check.ELEMENT, p -> p.errorPosition());
        refused(RefusedTest::withGoodScript, "48: no script that failed", Check.ELEMENT, p -> p.failedCommand());
    }

    private static CoolingPlanner withGoodScript() {
        CoolingPlanner p = Planners.busy();
        Check.run(p, "wait;limit 40");
        return p;
    }

    private static void undo() {
        refused(CoolingPlanner::new, "49: no change", Check.ELEMENT, p -> p.undo());
        refused(RefusedTest::allUndone, "49: all undone", Check.ELEMENT, p -> p.undo());
        refused(RefusedTest::restored, "49: restored", Check.ELEMENT, p -> p.undo());
    }

    private static CoolingPlanner allUndone() {
        CoolingPlanner p = Planners.laden();
        for (int left = 7; left >= 0; left--) {
            Check.same("49: left", left, p.undo());
        }
        return p;
    }

    private static CoolingPlanner restored() {
        CoolingPlanner p = Planners.laden();
        p.restore();
        return p;
    }

    private static void restore() {
        refused(CoolingPlanner::new, "51: no snapshot", Check.STATE, p -> p.restore());
        refused(() -> Planners.withTextAndPositions(Planners.busy()), "51: no snapshot, five changes", Check.STATE,
                p -> p.restore());
    }
}
