/** Promises 1 to 6 and 11 to 18: racks and their loads. */
public final class RacksTest {
    public static void main(String[] args) {
        newObject();
        addRack();
        addRackRefused();
        addRackFull();
        removeRack();
        moveRack();
        setLoad();
        migrate();
        queries();
        sums();
        Check.end();
    }

    private static void newObject() {
        CoolingPlanner p = new CoolingPlanner();
        Check.same("1: rackCount", 0, p.rackCount());
        Check.same("1: totalLoad", 0, p.totalLoad());
        Check.same("1: limit", 27, p.limit());
        Check.same("1: minute", 0, p.minute());
        for (int aisle = 0; aisle < 4; aisle++) {
            Check.same("1: fanSpeed", 5, p.fanSpeed(aisle));
            Check.same("1: storedHeat", 0, p.storedHeat(aisle));
            Check.same("1: heat", 0, p.heat(aisle));
        }
        Check.same("1: curvePoint(0)", 0, p.curvePoint(0));
        Check.same("1: curvePoint(1)", 50, p.curvePoint(1));
        Check.same("1: curvePoint(2)", 80, p.curvePoint(2));
        Check.refused("1: outputAt", Check.INDEX, () -> p.outputAt(0));
        Check.refused("1: undo", Check.ELEMENT, () -> p.undo());
        Check.refused("1: restore", Check.STATE, () -> p.restore());
        Check.same("1: type", 1, p.type('x'));
    }

    private static void addRack() {
        CoolingPlanner p = new CoolingPlanner();
        Check.same("2: first", 0, p.addRack(0, 0, 0));
        Check.same("2: second", 1, p.addRack(3, 5, 20));
        Check.same("2: third", 2, p.addRack(0, 5, 7));
        Check.same("2: rackCount", 3, p.rackCount());
        Check.same("2: aisleOf", 3, p.aisleOf(1));
        Check.same("2: placeOf", 5, p.placeOf(1));
        Check.same("2: load", 20, p.load(1));
        Check.same("2: load of the first", 0, p.load(0));
    }

    private static void addRackRefused() {
        CoolingPlanner p = new CoolingPlanner();
        p.addRack(1, 1, 1);
        Check.refused("2: aisle -1", Check.INDEX, () -> p.addRack(-1, 0, 0));
        Check.refused("2: aisle 4", Check.INDEX, () -> p.addRack(4, 0, 0));
        Check.refused("2: aisle before place", Check.INDEX, () -> p.addRack(Integer.MAX_VALUE, 6, 21));
        Check.refused("2: place -1", Check.ARGUMENT, () -> p.addRack(0, -1, 0));
        Check.refused("2: place 6", Check.ARGUMENT, () -> p.addRack(0, 6, 0));
        Check.refused("2: load -1", Check.ARGUMENT, () -> p.addRack(0, 0, -1));
        Check.refused("2: load 21", Check.ARGUMENT, () -> p.addRack(0, 0, 21));
        Check.refused("2: load before taken place", Check.ARGUMENT, () -> p.addRack(1, 1, 21));
        Check.refused("2: taken place", Check.UNSUPPORTED, () -> p.addRack(1, 1, 0));
        Check.same("2: nothing changed", 1, p.rackCount());
        Check.same("2: one change alone", 0, p.undo());
    }

    private static void addRackFull() {
        CoolingPlanner p = new CoolingPlanner();
        for (int i = 0; i < 12; i++) {
            Check.same("2: rack " + i, i, p.addRack(i % 4, i / 4, i));
        }
        Check.refused("2: thirteenth", Check.STATE, () -> p.addRack(0, 5, 0));
        Check.refused("2: thirteenth before taken place", Check.STATE, () -> p.addRack(0, 0, 0));
        Check.refused("2: load before thirteenth", Check.ARGUMENT, () -> p.addRack(0, 5, 21));
        Check.refused("2: aisle before thirteenth", Check.INDEX, () -> p.addRack(4, 5, 0));
        Check.same("2: rackCount", 12, p.rackCount());
        Check.same("2: the last one", 11, p.load(11));
        p.removeRack(11);
        Check.same("2: room again", 11, p.addRack(0, 5, 0));
    }

    private static void removeRack() {
        CoolingPlanner p = new CoolingPlanner();
        Check.refused("3: no racks", Check.INDEX, () -> p.removeRack(0));
        p.addRack(0, 1, 10);
        p.addRack(1, 2, 11);
        p.addRack(2, 3, 12);
        p.addRack(3, 4, 13);
        Check.refused("3: rack -1", Check.INDEX, () -> p.removeRack(-1));
        Check.refused("3: rack 4", Check.INDEX, () -> p.removeRack(4));
        Check.same("3: from the middle", 3, p.removeRack(1));
        Check.same("3: before it", 10, p.load(0));
        Check.same("3: behind it", 12, p.load(1));
        Check.same("3: behind it, aisle", 2, p.aisleOf(1));
        Check.same("3: behind it, place", 3, p.placeOf(1));
        Check.same("3: the last", 13, p.load(2));
        Check.refused("3: one fewer", Check.INDEX, () -> p.load(3));
        Check.refused("3: its place is free", Check.ELEMENT, () -> p.rackAt(1, 2));
        Check.same("3: the last one", 2, p.removeRack(2));
        Check.same("3: the first one", 1, p.removeRack(0));
        Check.same("3: what is left", 12, p.load(0));
        Check.same("3: none left", 0, p.removeRack(0));
    }

    private static void moveRack() {
        CoolingPlanner p = new CoolingPlanner();
        p.addRack(1, 1, 5);
        p.addRack(2, 2, 6);
        Check.same("4: moved", 1, p.moveRack(0, 3, 5));
        Check.same("4: aisle", 3, p.aisleOf(0));
        Check.same("4: place", 5, p.placeOf(0));
        Check.same("4: load", 5, p.load(0));
        Check.same("4: back", 3, p.moveRack(0, 1, 1));
        Check.same("4: within the aisle", 1, p.moveRack(0, 1, 0));
        Check.refused("4: rack -1", Check.INDEX, () -> p.moveRack(-1, 0, 0));
        Check.refused("4: rack 2", Check.INDEX, () -> p.moveRack(2, 0, 0));
        Check.refused("4: aisle -1", Check.INDEX, () -> p.moveRack(0, -1, 0));
        Check.refused("4: aisle 4", Check.INDEX, () -> p.moveRack(0, 4, 0));
        Check.refused("4: aisle before place", Check.INDEX, () -> p.moveRack(0, 4, 6));
        Check.refused("4: rack before place", Check.INDEX, () -> p.moveRack(2, 0, 6));
        Check.refused("4: place -1", Check.ARGUMENT, () -> p.moveRack(0, 0, -1));
        Check.refused("4: place 6", Check.ARGUMENT, () -> p.moveRack(0, 0, 6));
        Check.refused("4: another rack's place", Check.UNSUPPORTED, () -> p.moveRack(0, 2, 2));
        Check.refused("4: its own place", Check.UNSUPPORTED, () -> p.moveRack(0, 1, 0));
        Check.same("4: still there", 0, p.rackAt(1, 0));
    }

    private static void setLoad() {
        CoolingPlanner p = new CoolingPlanner();
        p.addRack(0, 0, 4);
        Check.same("5: previous", 4, p.setLoad(0, 20));
        Check.same("5: previous again", 20, p.setLoad(0, 0));
        Check.same("5: load", 0, p.load(0));
        Check.refused("5: rack -1", Check.INDEX, () -> p.setLoad(-1, 1));
        Check.refused("5: rack 1", Check.INDEX, () -> p.setLoad(1, 1));
        Check.refused("5: rack before load", Check.INDEX, () -> p.setLoad(1, 21));
        Check.refused("5: load -1", Check.ARGUMENT, () -> p.setLoad(0, -1));
        Check.refused("5: load 21", Check.ARGUMENT, () -> p.setLoad(0, 21));
        Check.same("5: unchanged", 0, p.load(0));
    }

    private static void migrate() {
        CoolingPlanner p = new CoolingPlanner();
        p.addRack(0, 0, 12);
        p.addRack(0, 1, 9);
        Check.same("6: all that fits", 20, p.migrate(0, 1, 11));
        Check.same("6: what is left", 1, p.load(0));
        Check.same("6: all the rest back", 2, p.migrate(1, 0, 1));
        Check.same("6: giver", 19, p.load(1));
        Check.refused("6: from -1", Check.INDEX, () -> p.migrate(-1, 0, 1));
        Check.refused("6: from 2", Check.INDEX, () -> p.migrate(2, 0, 1));
        Check.refused("6: to -1", Check.INDEX, () -> p.migrate(0, -1, 1));
        Check.refused("6: to 2", Check.INDEX, () -> p.migrate(0, 2, 1));
        Check.refused("6: index before same", Check.INDEX, () -> p.migrate(2, 2, 0));
        Check.refused("6: the same", Check.ARGUMENT, () -> p.migrate(0, 0, 1));
        Check.refused("6: the same before too little", Check.ARGUMENT, () -> p.migrate(0, 0, 3));
        Check.refused("6: load 0", Check.ARGUMENT, () -> p.migrate(0, 1, 0));
        Check.refused("6: load -1", Check.ARGUMENT, () -> p.migrate(0, 1, -1));
        Check.refused("6: load 21", Check.ARGUMENT, () -> p.migrate(0, 1, 21));
        Check.refused("6: too much for the second", Check.UNSUPPORTED, () -> p.migrate(0, 1, 2));
        Check.refused("6: too much for the first", Check.UNSUPPORTED, () -> p.migrate(0, 1, 3));
        p.setLoad(1, 0);
        Check.refused("6: the first has less", Check.UNSUPPORTED, () -> p.migrate(0, 1, 3));
        Check.same("6: the first has just that", 2, p.migrate(0, 1, 2));
        p.setLoad(0, 20);
        p.setLoad(1, 0);
        Check.same("6: load 20", 20, p.migrate(0, 1, 20));
    }

    private static void queries() {
        CoolingPlanner p = new CoolingPlanner();
        Check.refused("12: no racks", Check.INDEX, () -> p.aisleOf(0));
        p.addRack(2, 4, 17);
        Check.same("11: rackCount", 1, p.rackCount());
        Check.same("12: aisleOf", 2, p.aisleOf(0));
        Check.same("13: placeOf", 4, p.placeOf(0));
        Check.same("14: load", 17, p.load(0));
        for (int rack : new int[] {-1, 1, 12, Integer.MIN_VALUE, Integer.MAX_VALUE}) {
            Check.refused("12: aisleOf " + rack, Check.INDEX, () -> p.aisleOf(rack));
            Check.refused("13: placeOf " + rack, Check.INDEX, () -> p.placeOf(rack));
            Check.refused("14: load " + rack, Check.INDEX, () -> p.load(rack));
        }
        Check.same("15: rackAt", 0, p.rackAt(2, 4));
        Check.refused("15: aisle -1", Check.INDEX, () -> p.rackAt(-1, 0));
        Check.refused("15: aisle before place", Check.INDEX, () -> p.rackAt(4, 6));
        Check.refused("15: place -1", Check.ARGUMENT, () -> p.rackAt(2, -1));
        Check.refused("15: place 6", Check.ARGUMENT, () -> p.rackAt(2, 6));
        Check.refused("15: free place", Check.ELEMENT, () -> p.rackAt(2, 3));
        Check.refused("15: the other way round", Check.ELEMENT, () -> p.rackAt(0, 0));
    }

    private static void sums() {
        CoolingPlanner p = new CoolingPlanner();
        p.addRack(0, 0, 1);
        p.addRack(1, 0, 2);
        p.addRack(1, 5, 4);
        p.addRack(3, 0, 8);
        p.addRack(3, 3, 16);
        int[] heats = {1, 6, 0, 24};
        for (int aisle = 0; aisle < 4; aisle++) {
            Check.same("16: heat " + aisle, heats[aisle], p.heat(aisle));
        }
        Check.refused("16: aisle -1", Check.INDEX, () -> p.heat(-1));
        Check.refused("16: aisle 4", Check.INDEX, () -> p.heat(4));
        Check.same("17: totalLoad", 31, p.totalLoad());
        Check.same("18: totalLoadByAisles", 31, p.totalLoadByAisles());
        p.removeRack(4);
        Check.same("17: totalLoad after removal", 15, p.totalLoad());
        Check.same("18: totalLoadByAisles after removal", 15, p.totalLoadByAisles());
    }
}
