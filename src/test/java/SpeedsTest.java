/** Promises 28, 29 and 41: the speed that an aisle needs, and the consistency of the state. */
public final class SpeedsTest {
    public static void main(String[] args) {
        neededSpeed();
        hotAtEverySpeed();
        everySpeed();
        isConsistent();
        Check.end();
    }

    private static void bothWays(CoolingPlanner p, int aisle, int due) {
        Check.same("28: neededSpeed " + aisle, due, p.neededSpeed(aisle));
        Check.same("29: neededSpeedBySearch " + aisle, due, p.neededSpeedBySearch(aisle));
    }

    private static void bothWaysRefused(CoolingPlanner p, int aisle, Class<? extends RuntimeException> due) {
        Check.refused("28: neededSpeed " + aisle, due, () -> p.neededSpeed(aisle));
        Check.refused("29: neededSpeedBySearch " + aisle, due, () -> p.neededSpeedBySearch(aisle));
    }

    private static void neededSpeed() {
        CoolingPlanner p = new CoolingPlanner();
        bothWays(p, 0, 0);
        p.addRack(1, 0, 0);
        bothWays(p, 1, 0);
        p.setLoad(0, 12);
        p.addRack(1, 5, 20);
        p.addRack(2, 3, 8);
        bothWays(p, 1, 2);
        p.setLimit(20);
        bothWays(p, 1, 10);
        bothWays(p, 0, 0);
        p.setFan(1, 0);
        bothWays(p, 1, 10);
        p.setLimit(60);
        bothWays(p, 1, 1);
        bothWaysRefused(p, -1, Check.INDEX);
        bothWaysRefused(p, 4, Check.INDEX);
    }

    private static void hotAtEverySpeed() {
        CoolingPlanner p = new CoolingPlanner();
        for (int place = 0; place < 6; place++) {
            p.addRack(0, place, 20);
        }
        p.setLimit(21);
        bothWaysRefused(p, 0, Check.ELEMENT);
        p.addRack(1, 0, 0);
        bothWaysRefused(p, 1, Check.ELEMENT);
        p.removeRack(6);
        bothWays(p, 1, 0);
        p.setFan(0, 0);
        p.advance(60);
        p.setLimit(60);
        bothWaysRefused(p, 0, Check.ELEMENT);
    }

    /** Each speed is once the needed one: at the speed s the airflow is s, and the rack just as warm as the limit. */
    private static void everySpeed() {
        for (int speed = 1; speed <= 10; speed++) {
            CoolingPlanner p = new CoolingPlanner();
            p.setCurvePoint(1, 5);
            p.setCurvePoint(2, 10);
            p.setLimit(23);
            p.addRack(0, 0, 2 * speed);
            bothWays(p, 0, speed);
        }
    }

    private static void isConsistent() {
        CoolingPlanner p = new CoolingPlanner();
        Check.same("41: new", true, p.isConsistent());
        p.addRack(0, 0, 20);
        p.addRack(1, 1, 15);
        p.addRack(1, 2, 5);
        p.setFan(0, 0);
        Check.same("41: with a hot rack", true, p.isConsistent());
        p.advance(7);
        Check.same("41: with stored heat", true, p.isConsistent());
        p.setLimit(20);
        Check.same("41: with no needed speed", true, p.isConsistent());
        p.removeRack(0);
        p.undo();
        Check.same("41: after undo", true, p.isConsistent());
        p.save();
        p.advance(60);
        p.restore();
        Check.same("41: after restore", true, p.isConsistent());
    }
}
