/** Promises 10, 30, 33 and 35 to 38: minutes, stored heat, totals and the prediction. */
public final class MinutesTest {
    public static void main(String[] args) {
        advance();
        roundedDown();
        carriedFromStore();
        totals();
        minutesUntilHot();
        Check.end();
    }

    private static void advance() {
        CoolingPlanner p = new CoolingPlanner();
        p.addRack(0, 0, 10);
        p.addRack(1, 0, 5);
        p.setFan(0, 0);
        Check.same("10: hot after one", 1, p.advance(1));
        Check.same("35: minute", 1, p.minute());
        Check.same("33: stored", 10, p.storedHeat(0));
        p.setFan(0, 1);
        p.setLoad(0, 11);
        Check.same("10: not hot yet", 0, p.advance(1));
        Check.same("33: one left", 11, p.storedHeat(0));
        Check.same("10: sixty", 1, p.advance(60));
        Check.same("33: one more each minute", 71, p.storedHeat(0));
        Check.same("35: minute", 62, p.minute());
        Check.refused("10: 0", Check.ARGUMENT, () -> p.advance(0));
        Check.refused("10: -1", Check.ARGUMENT, () -> p.advance(-1));
        Check.refused("10: 61", Check.ARGUMENT, () -> p.advance(61));
        Check.same("35: unchanged", 62, p.minute());
        Check.refused("33: aisle -1", Check.INDEX, () -> p.storedHeat(-1));
        Check.refused("33: aisle 4", Check.INDEX, () -> p.storedHeat(4));
    }

    private static void roundedDown() {
        CoolingPlanner p = new CoolingPlanner();
        p.addRack(2, 0, 20);
        p.setCurvePoint(1, 24);
        p.setFan(2, 4);
        Check.same("21: not a whole number", 0f + 24f * 4f / 5f, p.airflowAt(4));
        p.advance(1);
        Check.same("33: 19 carried of 20", 1, p.storedHeat(2));
        Check.same("37: carried", 19, p.carriedTotal());
    }

    private static void carriedFromStore() {
        CoolingPlanner p = new CoolingPlanner();
        p.addRack(3, 0, 20);
        p.setFan(3, 0);
        p.advance(5);
        Check.same("33: all stored", 100, p.storedHeat(3));
        p.removeRack(0);
        p.setFan(3, 4);
        p.advance(1);
        Check.same("33: carried away without racks", 60, p.storedHeat(3));
        p.advance(2);
        Check.same("33: nothing left", 0, p.storedHeat(3));
        Check.same("37: no more than there was", 100, p.carriedTotal());
    }

    private static void totals() {
        CoolingPlanner p = new CoolingPlanner();
        Check.same("36: at first", 0, p.madeTotal());
        Check.same("37: at first", 0, p.carriedTotal());
        Check.same("38: at first", 0, p.energyTotal());
        p.addRack(0, 0, 20);
        p.addRack(0, 1, 20);
        p.addRack(3, 1, 3);
        p.setFan(0, 3);
        p.setFan(1, 0);
        p.setFan(2, 10);
        p.advance(4);
        Check.same("36: made", 4 * 43, p.madeTotal());
        Check.same("37: carried", 4 * 33, p.carriedTotal());
        Check.same("38: energy", 4 * (27 + 0 + 1000 + 125), p.energyTotal());
        Check.same("33: stored", 40, p.storedHeat(0));
        p.advance(1);
        Check.same("38: energy goes on", 5 * 1152, p.energyTotal());
    }

    private static void minutesUntilHot() {
        CoolingPlanner p = new CoolingPlanner();
        p.addRack(0, 0, 11);
        p.addRack(1, 0, 0);
        p.addRack(1, 1, 20);
        Check.refused("30: rack -1", Check.INDEX, () -> p.minutesUntilHot(-1));
        Check.refused("30: rack 3", Check.INDEX, () -> p.minutesUntilHot(3));
        Check.refused("30: never", Check.ELEMENT, () -> p.minutesUntilHot(0));
        p.setFan(0, 1);
        // 18 + 1 + 2.5 * 11 / 10 = 21.75 now, and 0.1 more each minute.
        p.setLimit(27);
        Check.same("30: after some minutes", 53, p.minutesUntilHot(0));
        p.setLimit(22);
        Check.same("30: sooner", 3, p.minutesUntilHot(0));
        p.setLimit(21);
        Check.same("30: now", 0, p.minutesUntilHot(0));
        p.setLimit(27);
        Check.same("30: the state is the same", 0, p.storedHeat(0));
        Check.same("30: no minute has passed", 0, p.minute());
        p.advance(52);
        Check.same("30: one minute left", 1, p.minutesUntilHot(0));
        Check.same("30: and it comes true", 1, p.advance(1));
        Check.same("30: hot", true, p.isHot(0));
        lastMinute();
    }

    private static void lastMinute() {
        CoolingPlanner p = new CoolingPlanner();
        p.addRack(0, 0, 11);
        p.setFan(0, 1);
        // 18 + 2.5 * 11 / 10 = 20.75 now: hot when more than 62 units are stored, with 2 there already.
        p.advance(2);
        p.setLimit(27);
        Check.refused("30: the 61st minute", Check.ELEMENT, () -> p.minutesUntilHot(0));
        p.advance(1);
        Check.same("30: the 60th minute", 60, p.minutesUntilHot(0));
    }
}
