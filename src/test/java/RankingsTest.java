/** Promises 31 and 32: rankings. */
public final class RankingsTest {
    public static void main(String[] args) {
        rackByTemperature();
        racksOfOneTemperature();
        aisleByHeat();
        Check.end();
    }

    private static void racks(CoolingPlanner p, int... due) {
        for (int rank = 0; rank < due.length; rank++) {
            Check.same("31: rank " + rank, due[rank], p.rackByTemperature(rank));
        }
        Check.refused("31: rank -1", Check.ELEMENT, () -> p.rackByTemperature(-1));
        Check.refused("31: rank behind the last", Check.ELEMENT, () -> p.rackByTemperature(due.length));
    }

    private static void aisles(CoolingPlanner p, int... due) {
        for (int rank = 0; rank < 4; rank++) {
            Check.same("32: rank " + rank, due[rank], p.aisleByHeat(rank));
        }
    }

    private static void rackByTemperature() {
        CoolingPlanner p = new CoolingPlanner();
        racks(p);
        p.addRack(0, 0, 20);
        p.addRack(0, 5, 1);
        p.addRack(3, 2, 7);
        p.addRack(0, 3, 2);
        racks(p, 1, 3, 0, 2);
        p.setFan(3, 0);
        racks(p, 2, 1, 3, 0);
    }

    private static void racksOfOneTemperature() {
        CoolingPlanner p = new CoolingPlanner();
        p.addRack(0, 0, 5);
        p.addRack(3, 0, 5);
        racks(p, 0, 1);
        p.addRack(2, 0, 0);
        p.addRack(1, 0, 0);
        // All four are 18.25 degrees warm, two by their own heat and two by their neighbours': the load decides.
        for (int rack = 0; rack < 4; rack++) {
            Check.same("24: rack " + rack, 18.25f, p.temperature(rack));
        }
        racks(p, 0, 1, 2, 3);
        p.removeRack(1);
        p.addRack(3, 0, 5);
        racks(p, 0, 3, 1, 2);
        // Racks at the same place of mirrored aisles are as warm as each other: the load decides, not the index.
        CoolingPlanner q = new CoolingPlanner();
        q.addRack(0, 0, 4);
        q.addRack(0, 1, 6);
        q.addRack(3, 0, 6);
        q.addRack(3, 1, 4);
        racks(q, 1, 3, 2, 0);
    }

    private static void aisleByHeat() {
        CoolingPlanner p = new CoolingPlanner();
        aisles(p, 0, 1, 2, 3);
        p.addRack(2, 0, 9);
        p.addRack(3, 0, 9);
        p.addRack(1, 0, 10);
        aisles(p, 1, 2, 3, 0);
        p.setFan(3, 0);
        p.advance(1);
        aisles(p, 1, 3, 2, 0);
        p.removeRack(0);
        p.removeRack(0);
        aisles(p, 1, 3, 0, 2);
        Check.refused("32: rank -1", Check.ELEMENT, () -> p.aisleByHeat(-1));
        Check.refused("32: rank 4", Check.ELEMENT, () -> p.aisleByHeat(4));
    }
}
