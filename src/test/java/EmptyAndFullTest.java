import java.util.function.Supplier;

/** Nothing at all, and as much as there can be: racks, aisles, the script buffer, changes, snapshot and output text. */
public final class EmptyAndFullTest {
    private static final String SIXTY = "limit 30" + ";wait".repeat(9) + ";wait 1";

    public static void main(String[] args) {
        noRacksYet();
        noRacksAnyMore();
        minutesWithoutRacks();
        aisleWithoutRacks();
        aisleWithoutRacksButStoredHeat();
        racksWithoutLoad();
        oneRack();
        twelveRacks();
        twelveRacksByScript();
        twelveRacksMoveWithinRoom();
        indicesAfterRemovals();
        emptyBuffer();
        bufferOfSixty();
        emptyAfterEachScript();
        numbersOfChanges();
        noSnapshot();
        emptySnapshot();
        emptyOutput();
        longestOutputs();
        greatestTotals();
        Check.end();
    }

    private static void empty(String what, CoolingPlanner p) {
        Check.same(what + ", 11: rackCount", 0, p.rackCount());
        Check.same(what + ", 17: totalLoad", 0, p.totalLoad());
        Check.same(what + ", 18: totalLoadByAisles", 0, p.totalLoadByAisles());
        Check.same(what + ", 26: hotSpots", 0, p.hotSpots());
        Check.same(what + ", 27: hotSpotsByPlaces", 0, p.hotSpotsByPlaces());
        Check.same(what + ", 41: isConsistent", true, p.isConsistent());
        Check.refused(what + ", 31: rank 0", Check.ELEMENT, () -> p.rackByTemperature(0));
        Check.refused(what + ", 39: meanTemperature", Check.ARITHMETIC, () -> p.meanTemperature());
        Check.refused(what + ", 40: hotShare", Check.ARITHMETIC, () -> p.hotShare());
        for (int i = 0; i < 4; i++) {
            int aisle = i;
            Check.same(what + ", 16: heat", 0, p.heat(aisle));
            Check.same(what + ", 23: rise", 0.0f, p.rise(aisle));
            Check.same(what + ", 28: neededSpeed", 0, p.neededSpeed(aisle));
            Check.same(what + ", 29: neededSpeedBySearch", 0, p.neededSpeedBySearch(aisle));
            for (int j = 0; j < 6; j++) {
                int place = j;
                Check.refused(what + ", 15: rackAt", Check.ELEMENT, () -> p.rackAt(aisle, place));
            }
            Check.same(what + ", 43: renderAisle", "f5 -,-,-,-,-,-".length(), p.renderAisle(aisle));
        }
        Check.same(what + ", 50: save", 0, p.save());
        Check.same(what + ", 51: restore", 0, p.restore());
    }

    private static void noRacksYet() {
        CoolingPlanner p = new CoolingPlanner();
        for (int aisle = 0; aisle < 4; aisle++) {
            Check.same("22: inletTemperature of a new object", 18.0f, p.inletTemperature(aisle));
            Check.same("32: aisles without heat by index", aisle, p.aisleByHeat(aisle));
        }
        empty("1: a new object", p);
    }

    private static void noRacksAnyMore() {
        CoolingPlanner p = Planners.full();
        for (int left = 11; left >= 0; left--) {
            Check.same("3: racks left", left, p.removeRack(left / 2));
        }
        empty("3: all removed", p);
        CoolingPlanner q = new CoolingPlanner();
        q.addRack(3, 5, 20);
        q.undo();
        empty("49: the only one undone", q);
        Check.same("2: the first index again", 0, q.addRack(3, 5, 20));
    }

    private static void minutesWithoutRacks() {
        CoolingPlanner p = new CoolingPlanner();
        Check.same("10: no rack is hot", 0, p.advance(60));
        Check.same("35: minute", 60, p.minute());
        Check.same("36: nothing made", 0, p.madeTotal());
        Check.same("37: nothing carried", 0, p.carriedTotal());
        Check.same("38: the fans turn all the same", 60 * 4 * 125, p.energyTotal());
        empty("10: an hour later", p);
    }

    /** Aisle 1 has no racks, but a neighbour on each side with 120 kilowatts. */
    private static CoolingPlanner withEmptyAisle() {
        CoolingPlanner p = new CoolingPlanner();
        for (int i = 0; i < 12; i++) {
            p.addRack(i / 6 * 2, i % 6, 20);
        }
        return p;
    }

    private static void aisleWithoutRacks() {
        CoolingPlanner p = withEmptyAisle();
        p.setLimit(20);
        p.setFan(1, 0);
        Check.same("16: heat", 0, p.heat(1));
        Check.same("22: warmed by both neighbours", 18.0f + 0.05f * 240f, p.inletTemperature(1));
        Check.same("22: warmed by one", 18.0f + 0.05f * 120f, p.inletTemperature(3));
        Check.same("23: no rise without airflow", 0.0f, p.rise(1));
        Check.same("28: no rack to be hot", 0, p.neededSpeed(1));
        Check.same("29: no rack to be hot", 0, p.neededSpeedBySearch(1));
        Check.same("32: behind those with heat", 1, p.aisleByHeat(2));
        Check.same("43: renderAisle", "f0 -,-,-,-,-,-".length(), p.renderAisle(1));
        Check.same("43: text", "f0 -,-,-,-,-,-|" + Check.INDEX, Planners.output(p));
        Check.same("41: isConsistent", true, p.isConsistent());
    }

    private static void aisleWithoutRacksButStoredHeat() {
        CoolingPlanner p = new CoolingPlanner();
        p.addRack(1, 0, 20);
        p.setFan(1, 0);
        p.advance(60);
        p.removeRack(0);
        p.setLimit(20);
        p.advance(1);
        Check.same("33: kept without airflow", 1200, p.storedHeat(1));
        Check.same("22: warmed by it", 18.0f + 0.05f * 0f + 0.1f * 1200f, p.inletTemperature(1));
        Check.same("23: no rise", 0.0f, p.rise(1));
        Check.same("28: 0 all the same", 0, p.neededSpeed(1));
        Check.same("29: 0 all the same", 0, p.neededSpeedBySearch(1));
        p.addRack(1, 0, 0);
        Check.same("23: no rise by a rack without load", 0.0f, p.rise(1));
        Check.refused("28: hot at every speed", Check.ELEMENT, () -> p.neededSpeed(1));
        Check.refused("29: hot at every speed", Check.ELEMENT, () -> p.neededSpeedBySearch(1));
        Check.same("41: no speed both ways", true, p.isConsistent());
    }

    private static void racksWithoutLoad() {
        CoolingPlanner p = new CoolingPlanner();
        p.addRack(0, 5, 0);
        Planners.withFansAt(p, 0);
        p.setLimit(20);
        Check.same("16: heat", 0, p.heat(0));
        Check.same("23: rise", 0.0f, p.rise(0));
        Check.same("24: as warm as the inlet", 18.0f, p.temperature(0));
        Check.same("28: any speed", 0, p.neededSpeed(0));
        Check.same("29: any speed", 0, p.neededSpeedBySearch(0));
        Check.refused("30: never", Check.ELEMENT, () -> p.minutesUntilHot(0));
        Check.same("42: renderRack", "0@0.5:0".length(), p.renderRack(0));
        Check.same("40: hotShare", 0.0f, p.hotShare());
    }

    private static void oneRack() {
        CoolingPlanner p = new CoolingPlanner();
        p.addRack(3, 4, 20);
        Check.same("31: rank 0", 0, p.rackByTemperature(0));
        Check.same("39: its own temperature", (double) p.temperature(0), p.meanTemperature());
        Check.same("40: not hot", 0.0f, p.hotShare());
        p.setFan(3, 0);
        Check.same("40: hot", 1.0f, p.hotShare());
        Check.same("3: none left", 0, p.removeRack(0));
    }

    private static void allHot(CoolingPlanner p, int hot) {
        Check.same("26: hotSpots", hot, p.hotSpots());
        Check.same("27: hotSpotsByPlaces", hot, p.hotSpotsByPlaces());
        Check.same("40: hotShare", hot / 12f, p.hotShare());
        Check.same("41: isConsistent", true, p.isConsistent());
    }

    private static void twelveRacks() {
        CoolingPlanner p = Planners.crowded();
        Check.same("11: rackCount", 12, p.rackCount());
        Check.same("16: a full aisle", 120, p.heat(0));
        Check.same("17: totalLoad", 240, p.totalLoad());
        Check.same("18: totalLoadByAisles", 240, p.totalLoadByAisles());
        for (int rack = 0; rack < 12; rack++) {
            Check.same("15: rackAt", rack, p.rackAt(rack / 6, rack % 6));
            // Both aisles are as warm as each other: the higher place first, and of two the lower index.
            Check.same("31: rank", 5 - rack / 2 + rack % 2 * 6, p.rackByTemperature(rack));
        }
        allHot(p, 12);
        p.setLimit(60);
        allHot(p, 0);
        Planners.withFansAt(p, 0);
        allHot(p, 12);
        Check.same("10: twelve are hot", 12, p.advance(60));
        Check.same("33: stored", 7200, p.storedHeat(1));
        Check.same("36: made", 14400, p.madeTotal());
        Check.refused("2: a thirteenth", Check.STATE, () -> p.addRack(2, 0, 0));
        Check.same("50: save", 12, p.save());
        Check.same("51: restore", 12, p.restore());
    }

    private static void twelveRacksByScript() {
        CoolingPlanner p = new CoolingPlanner();
        for (int aisle = 0; aisle < 3; aisle++) {
            String rack = "rack " + aisle + " ";
            String script = String.join(";", rack + "0 1", rack + "1 2", rack + "2 3", rack + "5 20");
            Check.same("46: four racks", 4, Check.run(p, script));
        }
        Check.same("11: rackCount", 12, p.rackCount());
        Check.refused("46: a thirteenth", Check.STATE, () -> Check.run(p, "rack 3 0 0"));
        Check.same("46: after one is dropped", 2, Check.run(p, "drop 0;rack 3 0 4"));
        Check.same("11: twelve again", 12, p.rackCount());
        Check.same("15: the last index", 11, p.rackAt(3, 0));
    }

    private static void twelveRacksMoveWithinRoom() {
        CoolingPlanner p = Planners.crowded();
        Check.same("4: moved from a full aisle", 0, p.moveRack(0, 3, 0));
        Check.same("4: to the place that is free now", 1, p.moveRack(11, 0, 0));
        Check.same("4: back", 3, p.moveRack(0, 1, 5));
        Check.same("15: indices stay", 11, p.rackAt(0, 0));
        Check.same("15: indices stay here, too", 0, p.rackAt(1, 5));
        Check.same("11: rackCount", 12, p.rackCount());
    }

    private static void loadsOf(CoolingPlanner p, int... due) {
        Check.same("3: racks", due.length, p.rackCount());
        for (int rack = 0; rack < due.length; rack++) {
            Check.same("3: the rack that is now " + rack, due[rack], p.load(rack));
        }
    }

    private static void indicesAfterRemovals() {
        CoolingPlanner p = Planners.full();
        p.removeRack(11);
        loadsOf(p, 1, 2, 3, 4, 5, 6, 7, 8, 9, 10, 11);
        p.removeRack(0);
        loadsOf(p, 2, 3, 4, 5, 6, 7, 8, 9, 10, 11);
        p.removeRack(8);
        loadsOf(p, 2, 3, 4, 5, 6, 7, 8, 9, 11);
        Check.same("2: behind the last", 9, p.addRack(0, 0, 20));
        loadsOf(p, 2, 3, 4, 5, 6, 7, 8, 9, 11, 20);
    }

    private static void emptyBuffer() {
        CoolingPlanner p = new CoolingPlanner();
        Check.refused("46: nothing typed", Check.ARGUMENT, () -> p.runScript());
        Check.same("47: the length, 0", 0, p.errorPosition());
        Check.refused("48: nothing failed", Check.ELEMENT, () -> p.failedCommand());
        Check.refused("49: no change", Check.ELEMENT, () -> p.undo());
    }

    private static void bufferOfSixty() {
        CoolingPlanner p = new CoolingPlanner();
        Check.type(p, SIXTY);
        Check.refused("45: 61 characters", Check.STATE, () -> p.type(';'));
        Check.same("46: eleven commands", 11, p.runScript());
        Check.same("46: ten minutes", 10, p.minute());
        Check.same("46: the limit", 30, p.limit());
        Check.same("45: empty", 1, p.type('x'));
    }

    private static void emptyAfterEachScript() {
        CoolingPlanner p = new CoolingPlanner();
        Check.same("46: executed", 1, Check.run(p, "wait"));
        Check.same("46: empty behind it", 1, Check.run(p, "wait"));
        Check.refused("46: without form", Check.ARGUMENT, () -> Check.run(p, "wait;"));
        Check.same("46: empty behind that", 1, Check.run(p, "wait"));
        Check.refused("46: failed", Check.STATE, () -> Check.run(p, "drop 0"));
        Check.same("46: empty behind that, too", 1, Check.run(p, "wait"));
        Check.same("35: four minutes", 4, p.minute());
        Check.refused("46: nothing typed since", Check.ARGUMENT, () -> p.runScript());
    }

    private static CoolingPlanner after(int changes) {
        CoolingPlanner p = new CoolingPlanner();
        for (int i = 0; i < changes; i++) {
            p.setLimit(20 + i);
        }
        return p;
    }

    private static void numbersOfChanges() {
        for (int changes = 0; changes <= 20; changes++) {
            CoolingPlanner p = after(changes);
            int undoable = Math.min(changes, 8);
            for (int left = undoable - 1; left >= 0; left--) {
                Check.same("49: left of " + changes, left, p.undo());
            }
            Check.refused("49: no more of " + changes, Check.ELEMENT, () -> p.undo());
            Check.same("49: as before the latest of " + changes, after(changes - undoable).limit(), p.limit());
        }
    }

    private static void noSnapshot() {
        CoolingPlanner p = new CoolingPlanner();
        Check.refused("51: a new object", Check.STATE, () -> p.restore());
        p.addRack(0, 0, 0);
        Check.refused("51: after a change", Check.STATE, () -> p.restore());
        p.undo();
        Check.refused("51: after undo", Check.STATE, () -> p.restore());
        Check.same("50: save", 0, p.save());
        Check.same("51: then there is one", 0, p.restore());
    }

    private static void emptySnapshot() {
        Supplier<CoolingPlanner> maker = () -> {
            CoolingPlanner p = new CoolingPlanner();
            p.save();
            return p;
        };
        CoolingPlanner p = maker.get();
        for (int i = 0; i < 12; i++) {
            p.addRack(i % 4, i / 4, 20);
        }
        p.advance(60);
        Check.same("51: no racks", 0, p.restore());
        Check.same("51: as new", Planners.state(maker.get()), Planners.state(p));
        Check.refused("51: nothing to undo", Check.ELEMENT, () -> p.undo());
    }

    private static void emptyOutput() {
        CoolingPlanner p = new CoolingPlanner();
        Check.refused("44: a new object", Check.INDEX, () -> p.outputAt(0));
        p.addRack(0, 0, 0);
        p.save();
        p.restore();
        Check.refused("42: no such rack", Check.INDEX, () -> p.renderRack(1));
        Check.refused("43: no such aisle", Check.INDEX, () -> p.renderAisle(4));
        Check.refused("44: still empty", Check.INDEX, () -> p.outputAt(0));
        Check.same("42: renderRack", 7, p.renderRack(0));
        Check.same("44: no longer", '0', p.outputAt(0));
    }

    private static void described(CoolingPlanner p, String due, int length) {
        Check.same("42, 43: length of " + due, due.length(), length);
        Check.same("42, 43: text", due + "|" + Check.INDEX, Planners.output(p));
    }

    private static void longestOutputs() {
        CoolingPlanner p = Planners.crowded();
        described(p, "9@1.3:20!", p.renderRack(9));
        described(p, "10@1.4:20!", p.renderRack(10));
        described(p, "11@1.5:20!", p.renderRack(11));
        p.setLoad(11, 9);
        p.setLimit(60);
        described(p, "11@1.5:9", p.renderRack(11));
        described(p, "f5 20,20,20,20,20,9", p.renderAisle(1));
        p.setLoad(11, 10);
        described(p, "11@1.5:10", p.renderRack(11));
        p.setFan(1, 9);
        described(p, "f9 20,20,20,20,20,10", p.renderAisle(1));
        p.setFan(1, 10);
        described(p, "f10 20,20,20,20,20,10", p.renderAisle(1));
        described(p, "f5 -,-,-,-,-,-", p.renderAisle(3));
    }

    /** Nearly as many minutes as 512 calls can let pass: nothing wraps around. */
    private static void greatestTotals() {
        CoolingPlanner p = Planners.crowded();
        Planners.withFansAt(p, 10);
        p.setFan(0, 0);
        for (int i = 0; i < 480; i++) {
            p.advance(60);
        }
        Check.same("35: minute", 28800, p.minute());
        Check.same("36: made", 28800 * 240, p.madeTotal());
        Check.same("37: carried", 28800 * 80, p.carriedTotal());
        Check.same("38: energy", 28800 * 3000, p.energyTotal());
        Check.same("33: all of it", 28800 * 120, p.storedHeat(0));
        Check.same("33: what the airflow leaves", 28800 * 40, p.storedHeat(1));
        Check.same("22: very warm", 18.0f + 0.05f * 120f + 0.1f * 3456000f, p.inletTemperature(0));
        Check.same("41: isConsistent", true, p.isConsistent());
    }
}
