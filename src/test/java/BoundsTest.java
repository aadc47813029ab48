import java.util.function.Supplier;

/** Both sides of each bound of an argument: the last value that is allowed, and the first that is not. */
public final class BoundsTest {
    public static void main(String[] args) {
        racksThatChange();
        racksThatAreAskedFor();
        aislesThatChange();
        aislesThatAreAskedFor();
        places();
        loads();
        migratedLoads();
        loadsThatAreThere();
        speeds();
        points();
        airflows();
        airflowsBetweenNeighbours();
        limits();
        minutes();
        ranksOfRacks();
        ranksOfAisles();
        characters();
        lengthsOfTheBuffer();
        outputIndices();
        Check.end();
    }

    /** A call with the index of a rack, an aisle or a place. */
    private interface IndexCall {
        Object answer(CoolingPlanner p, int index);
    }

    /** Rack 0 and rack 11 of twelve, and none behind the last one, however many there are. */
    private static void rackIndex(String what, Object ofFirst, Object ofLast, IndexCall call) {
        Check.lowest(what + ", rack", 0, ofFirst, Check.INDEX, rack -> call.answer(Planners.full(), rack));
        Check.highest(what + ", rack", 11, ofLast, Check.INDEX, rack -> call.answer(Planners.full(), rack));
        Check.refused(what + ", three racks", Check.INDEX, () -> call.answer(Planners.busy(), 3));
        Check.refused(what + ", no racks", Check.INDEX, () -> call.answer(new CoolingPlanner(), 0));
        Check.refused(what + ", no racks, -1", Check.INDEX, () -> call.answer(new CoolingPlanner(), -1));
        CoolingPlanner p = Planners.full();
        p.removeRack(0);
        Check.refused(what + ", one removed", Check.INDEX, () -> call.answer(p, 11));
        p.undo();
        p.undo();
        Check.refused(what + ", one undone", Check.INDEX, () -> call.answer(p, 11));
    }

    private static void racksThatChange() {
        rackIndex("3: removeRack", 11, 11, (p, rack) -> p.removeRack(rack));
        rackIndex("4: moveRack", 0, 3, (p, rack) -> p.moveRack(rack, 3, 5));
        rackIndex("5: setLoad", 1, 12, (p, rack) -> p.setLoad(rack, 20));
        rackIndex("6: migrate from", 7, 7, (p, rack) -> p.migrate(rack, 5, 1));
        rackIndex("6: migrate to", 2, 13, (p, rack) -> p.migrate(5, rack, 1));
    }

    private static void racksThatAreAskedFor() {
        rackIndex("12: aisleOf", 0, 3, (p, rack) -> p.aisleOf(rack));
        rackIndex("13: placeOf", 0, 2, (p, rack) -> p.placeOf(rack));
        rackIndex("14: load", 1, 12, (p, rack) -> p.load(rack));
        float first = 18.0f + 0.05f * 18f + 2.5f * 15f / 50f * (1.0f + 0 / 10.0f);
        float last = 18.0f + 0.05f * 21f + 2.5f * 24f / 50f * (1.0f + 2 / 10.0f);
        rackIndex("24: temperature", first, last, (p, rack) -> p.temperature(rack));
        rackIndex("25: isHot", false, false, (p, rack) -> p.isHot(rack));
        rackIndex("30: minutesUntilHot", 0, 0, (p, rack) -> Planners.withFansAt(p, 0).minutesUntilHot(rack));
        rackIndex("42: renderRack", "0@0.0:1".length(), "11@3.2:12".length(), (p, rack) -> p.renderRack(rack));
    }

    private static void aisleIndex(String what, Object ofFirst, Object ofLast, IndexCall call) {
        Check.lowest(what + ", aisle", 0, ofFirst, Check.INDEX, aisle -> call.answer(Planners.full(), aisle));
        Check.highest(what + ", aisle", 3, ofLast, Check.INDEX, aisle -> call.answer(Planners.full(), aisle));
        Check.refused(what + ", no racks, -1", Check.INDEX, () -> call.answer(new CoolingPlanner(), -1));
        Check.refused(what + ", no racks, 4", Check.INDEX, () -> call.answer(new CoolingPlanner(), 4));
    }

    private static void aislesThatChange() {
        Check.lowest("2: addRack, aisle", 0, 0, Check.INDEX, BoundsTest::aisleOfAdded);
        Check.highest("2: addRack, aisle", 3, 3, Check.INDEX, BoundsTest::aisleOfAdded);
        Check.lowest("4: moveRack, aisle", 0, 0, Check.INDEX, BoundsTest::aisleOfMoved);
        Check.highest("4: moveRack, aisle", 3, 3, Check.INDEX, BoundsTest::aisleOfMoved);
        aisleIndex("7: setFan", 5, 5, (p, aisle) -> p.setFan(aisle, 9));
        aisleIndex("7: setFan twice", 9, 9, (p, aisle) -> setTwice(p, aisle));
    }

    private static int setTwice(CoolingPlanner p, int aisle) {
        p.setFan(aisle, 9);
        return p.setFan(aisle, 4);
    }

    private static int aisleOfAdded(int aisle) {
        CoolingPlanner p = Planners.busy();
        return p.aisleOf(p.addRack(aisle, 5, 20));
    }

    private static int aisleOfMoved(int aisle) {
        CoolingPlanner p = Planners.busy();
        p.moveRack(1, aisle, 5);
        return p.aisleOf(1);
    }

    private static void aislesThatAreAskedFor() {
        Check.lowest("15: rackAt, aisle", 0, 8, Check.INDEX, aisle -> Planners.full().rackAt(aisle, 2));
        Check.highest("15: rackAt, aisle", 3, 11, Check.INDEX, aisle -> Planners.full().rackAt(aisle, 2));
        aisleIndex("16: heat", 15, 24, (p, aisle) -> p.heat(aisle));
        aisleIndex("19: fanSpeed", 1, 10, (p, aisle) -> withDifferentFans(p).fanSpeed(aisle));
        float first = 18.0f + 0.05f * 18f + 0.1f * 0f;
        float last = 18.0f + 0.05f * 21f + 0.1f * 0f;
        aisleIndex("22: inletTemperature", first, last, (p, aisle) -> p.inletTemperature(aisle));
        aisleIndex("23: rise", 2.5f * 15f / 50f, 2.5f * 24f / 50f, (p, aisle) -> p.rise(aisle));
        aisleIndex("28: neededSpeed", 1, 1, (p, aisle) -> p.neededSpeed(aisle));
        aisleIndex("29: neededSpeedBySearch", 1, 1, (p, aisle) -> p.neededSpeedBySearch(aisle));
        aisleIndex("33: storedHeat", 30, 48, (p, aisle) -> withTwoHotMinutes(p).storedHeat(aisle));
        aisleIndex("43: renderAisle", "f5 1,5,9,-,-,-".length(), "f5 4,8,12,-,-,-".length(),
                (p, aisle) -> p.renderAisle(aisle));
    }

    private static CoolingPlanner withDifferentFans(CoolingPlanner p) {
        p.setFan(0, 1);
        p.setFan(3, 10);
        return p;
    }

    private static CoolingPlanner withTwoHotMinutes(CoolingPlanner p) {
        Planners.withFansAt(p, 0).advance(2);
        return p;
    }

    private static void places() {
        Check.lowest("2: addRack, place", 0, 0, Check.ARGUMENT, BoundsTest::placeOfAdded);
        Check.highest("2: addRack, place", 5, 5, Check.ARGUMENT, BoundsTest::placeOfAdded);
        Check.lowest("4: moveRack, place", 0, 0, Check.ARGUMENT, BoundsTest::placeOfMoved);
        Check.highest("4: moveRack, place", 5, 5, Check.ARGUMENT, BoundsTest::placeOfMoved);
        Check.lowest("15: rackAt, place", 0, 6, Check.ARGUMENT, place -> Planners.crowded().rackAt(1, place));
        Check.highest("15: rackAt, place", 5, 11, Check.ARGUMENT, place -> Planners.crowded().rackAt(1, place));
    }

    private static int placeOfAdded(int place) {
        CoolingPlanner p = Planners.busy();
        return p.placeOf(p.addRack(3, place, 20));
    }

    private static int placeOfMoved(int place) {
        CoolingPlanner p = Planners.busy();
        p.moveRack(1, 3, place);
        return p.placeOf(1);
    }

    private static void loads() {
        Check.lowest("2: addRack, load", 0, 0, Check.ARGUMENT, BoundsTest::loadOfAdded);
        Check.highest("2: addRack, load", 20, 20, Check.ARGUMENT, BoundsTest::loadOfAdded);
        Check.lowest("5: setLoad, load", 0, 0, Check.ARGUMENT, BoundsTest::loadSet);
        Check.highest("5: setLoad, load", 20, 20, Check.ARGUMENT, BoundsTest::loadSet);
    }

    private static int loadOfAdded(int load) {
        CoolingPlanner p = Planners.busy();
        return p.load(p.addRack(3, 0, load));
    }

    private static int loadSet(int load) {
        CoolingPlanner p = Planners.busy();
        p.setLoad(1, load);
        return p.load(1);
    }

    /** A planner with two racks that have these loads. */
    private static CoolingPlanner pair(int first, int second) {
        CoolingPlanner p = new CoolingPlanner();
        p.addRack(0, 0, first);
        p.addRack(3, 5, second);
        return p;
    }

    private static void migratedLoads() {
        Check.lowest("6: migrate, load", 1, 1, Check.ARGUMENT, load -> pair(20, 0).migrate(0, 1, load));
        Check.highest("6: migrate, load", 20, 20, Check.ARGUMENT, load -> pair(20, 0).migrate(0, 1, load));
    }

    private static void loadsThatAreThere() {
        Check.same("6: all that the first has", 7, pair(7, 0).migrate(0, 1, 7));
        Check.refused("6: one more than the first has", Check.UNSUPPORTED, () -> pair(7, 0).migrate(0, 1, 8));
        Check.refused("6: the first has nothing", Check.UNSUPPORTED, () -> pair(0, 0).migrate(0, 1, 1));
        Check.same("6: the last kilowatt of the first", 1, pair(1, 0).migrate(0, 1, 1));
        Check.same("6: the second gets 20", 20, pair(20, 13).migrate(0, 1, 7));
        Check.refused("6: the second would get 21", Check.UNSUPPORTED, () -> pair(20, 13).migrate(0, 1, 8));
        Check.refused("6: the second has 20", Check.UNSUPPORTED, () -> pair(20, 20).migrate(0, 1, 1));
        Check.same("6: the second has 19", 20, pair(20, 19).migrate(0, 1, 1));
        Check.refused("6: both would be too much", Check.UNSUPPORTED, () -> pair(7, 13).migrate(0, 1, 8));
    }

    private static void speeds() {
        Check.lowest("7: setFan, speed", 0, 0, Check.ARGUMENT, BoundsTest::speedSet);
        Check.highest("7: setFan, speed", 10, 10, Check.ARGUMENT, BoundsTest::speedSet);
        Check.lowest("21: airflowAt", 0, 0.0f, Check.ARGUMENT, speed -> new CoolingPlanner().airflowAt(speed));
        Check.highest("21: airflowAt", 10, 80.0f, Check.ARGUMENT, speed -> new CoolingPlanner().airflowAt(speed));
    }

    private static int speedSet(int speed) {
        CoolingPlanner p = Planners.busy();
        p.setFan(3, speed);
        return p.fanSpeed(3);
    }

    private static void points() {
        Check.lowest("8: setCurvePoint, point", 0, 50, Check.INDEX, point -> flat(50).setCurvePoint(point, 50));
        Check.highest("8: setCurvePoint, point", 2, 50, Check.INDEX, point -> flat(50).setCurvePoint(point, 50));
        Check.lowest("20: curvePoint", 0, 3, Check.INDEX, point -> Planners.withCurve(3, 4, 5).curvePoint(point));
        Check.highest("20: curvePoint", 2, 5, Check.INDEX, point -> Planners.withCurve(3, 4, 5).curvePoint(point));
    }

    private static CoolingPlanner flat(int airflow) {
        return Planners.withCurve(airflow, airflow, airflow);
    }

    private static void airflows() {
        for (int i = 0; i < 3; i++) {
            int point = i;
            Check.lowest("8: setCurvePoint " + point, 0, 0, Check.ARGUMENT,
                    airflow -> airflowSet(flat(0), point, airflow));
            Check.highest("8: setCurvePoint " + point, 200, 200, Check.ARGUMENT,
                    airflow -> airflowSet(flat(200), point, airflow));
        }
        Check.same("8: the whole range at once", 200, airflowSet(Planners.withCurve(0, 0, 0), 2, 200));
        Check.same("8: and back", 0, airflowSet(Planners.withCurve(0, 0, 200), 2, 0));
    }

    private static int airflowSet(CoolingPlanner p, int point, int airflow) {
        p.setCurvePoint(point, airflow);
        return p.curvePoint(point);
    }

    private static void airflowsBetweenNeighbours() {
        Supplier<CoolingPlanner> curve = () -> Planners.withCurve(10, 50, 80);
        Check.same("8: point 0 as point 1", 50, airflowSet(curve.get(), 0, 50));
        Check.refused("8: point 0 above point 1", Check.UNSUPPORTED, () -> airflowSet(curve.get(), 0, 51));
        Check.refused("8: point 0 far above", Check.UNSUPPORTED, () -> airflowSet(curve.get(), 0, 200));
        Check.same("8: point 1 as point 0", 10, airflowSet(curve.get(), 1, 10));
        Check.refused("8: point 1 below point 0", Check.UNSUPPORTED, () -> airflowSet(curve.get(), 1, 9));
        Check.refused("8: point 1 far below", Check.UNSUPPORTED, () -> airflowSet(curve.get(), 1, 0));
        Check.same("8: point 1 as point 2", 80, airflowSet(curve.get(), 1, 80));
        Check.refused("8: point 1 above point 2", Check.UNSUPPORTED, () -> airflowSet(curve.get(), 1, 81));
        Check.same("8: point 2 as point 1", 50, airflowSet(curve.get(), 2, 50));
        Check.refused("8: point 2 below point 1", Check.UNSUPPORTED, () -> airflowSet(curve.get(), 2, 49));
        Check.refused("8: point 2 as point 0", Check.UNSUPPORTED, () -> airflowSet(curve.get(), 2, 10));
        Check.refused("8: point 2 far below", Check.UNSUPPORTED, () -> airflowSet(curve.get(), 2, 0));
    }

    private static void limits() {
        Check.lowest("9: setLimit", 20, 20, Check.ARGUMENT, BoundsTest::limitSet);
        Check.highest("9: setLimit", 60, 60, Check.ARGUMENT, BoundsTest::limitSet);
        Check.refused("9: setLimit 0", Check.ARGUMENT, () -> limitSet(0));
        Check.refused("9: setLimit -20", Check.ARGUMENT, () -> limitSet(-20));
    }

    private static int limitSet(int limit) {
        CoolingPlanner p = new CoolingPlanner();
        p.setLimit(limit);
        return p.limit();
    }

    private static void minutes() {
        Check.lowest("10: advance", 1, 4, Check.ARGUMENT, BoundsTest::minuteAfter);
        Check.highest("10: advance", 60, 63, Check.ARGUMENT, BoundsTest::minuteAfter);
    }

    private static int minuteAfter(int minutes) {
        CoolingPlanner p = Planners.busy();
        p.advance(minutes);
        return p.minute();
    }

    private static void ranksOfRacks() {
        // Aisle 2 of full() is the warmest, by its neighbours, and aisle 0 the coldest; a higher place is a warmer one.
        Check.lowest("31: twelve racks", 0, 10, Check.ELEMENT, rank -> Planners.full().rackByTemperature(rank));
        Check.highest("31: twelve racks", 11, 0, Check.ELEMENT, rank -> Planners.full().rackByTemperature(rank));
        Check.lowest("31: one rack", 0, 0, Check.ELEMENT, rank -> one().rackByTemperature(rank));
        Check.highest("31: one rack", 0, 0, Check.ELEMENT, rank -> one().rackByTemperature(rank));
        for (int rank : new int[] {0, -1, 1, 11, Integer.MIN_VALUE, Integer.MAX_VALUE}) {
            Check.refused("31: no racks", Check.ELEMENT, () -> new CoolingPlanner().rackByTemperature(rank));
        }
        CoolingPlanner p = Planners.full();
        p.removeRack(5);
        Check.same("31: eleven racks, rank 10", 0, p.rackByTemperature(10));
        Check.refused("31: eleven racks, rank 11", Check.ELEMENT, () -> p.rackByTemperature(11));
    }

    private static CoolingPlanner one() {
        CoolingPlanner p = new CoolingPlanner();
        p.addRack(2, 3, 4);
        return p;
    }

    private static void ranksOfAisles() {
        Check.lowest("32: aisleByHeat", 0, 3, Check.ELEMENT, rank -> Planners.full().aisleByHeat(rank));
        Check.highest("32: aisleByHeat", 3, 0, Check.ELEMENT, rank -> Planners.full().aisleByHeat(rank));
        Check.lowest("32: no racks", 0, 0, Check.ELEMENT, rank -> new CoolingPlanner().aisleByHeat(rank));
        Check.highest("32: no racks", 3, 3, Check.ELEMENT, rank -> new CoolingPlanner().aisleByHeat(rank));
    }

    private static void characters() {
        for (int code = 0; code <= Character.MAX_VALUE; code++) {
            char character = (char) code;
            Object due = code >= 32 && code <= 126 ? Integer.valueOf(1) : Check.ARGUMENT;
            Check.same("45: type " + code, due, Check.answerOf(() -> new CoolingPlanner().type(character)));
        }
    }

    private static void lengthsOfTheBuffer() {
        CoolingPlanner p = new CoolingPlanner();
        for (int length = 1; length <= 59; length++) {
            Check.same("45: length " + length, length, p.type('w'));
        }
        Check.same("45: the last character that fits", 60, p.type('w'));
        Check.refused("45: one too many", Check.STATE, () -> p.type('w'));
        Check.refused("45: and again", Check.STATE, () -> p.type('w'));
        Check.refused("46: no script", Check.ARGUMENT, () -> p.runScript());
        for (int length = 1; length <= 60; length++) {
            Check.same("45: length " + length + " again", length, p.type('w'));
        }
        Check.refused("45: one too many again", Check.STATE, () -> p.type('w'));
    }

    private static void outputIndices() {
        Check.lowest("44: outputAt", 0, '3', Check.INDEX, index -> described().outputAt(index));
        Check.highest("44: outputAt", 8, '!', Check.INDEX, index -> described().outputAt(index));
        for (int index : new int[] {0, -1, 1, Integer.MIN_VALUE, Integer.MAX_VALUE}) {
            Check.refused("44: empty, " + index, Check.INDEX, () -> new CoolingPlanner().outputAt(index));
        }
        CoolingPlanner p = Planners.crowded();
        Check.same("43: a long text", 20, p.renderAisle(1));
        Check.same("44: its last character", '0', p.outputAt(19));
        Check.same("42: a shorter one", 9, p.renderRack(0));
        Check.same("44: the last character of the shorter one", '!', p.outputAt(8));
        Check.refused("44: nothing is left of the long one", Check.INDEX, () -> p.outputAt(9));
        Check.refused("44: nor its last character", Check.INDEX, () -> p.outputAt(19));
    }

    /** The output text of the document's example, "3@1.5:12!". */
    private static CoolingPlanner described() {
        CoolingPlanner p = new CoolingPlanner();
        for (int i = 0; i < 3; i++) {
            p.addRack(0, i, 0);
        }
        p.addRack(1, 5, 12);
        p.setFan(1, 0);
        p.renderRack(3);
        return p;
    }
}
