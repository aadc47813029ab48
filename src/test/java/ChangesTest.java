import java.util.function.Function;

/** Promises 49 to 51: undo and the snapshot. */
public final class ChangesTest {
    public static void main(String[] args) {
        everyChange();
        noChange();
        eightChanges();
        newChangeAfterUndo();
        refusedAfterEight();
        snapshot();
        notCovered();
        Check.end();
    }

    private static void undone(String what, Function<CoolingPlanner, Object> change) {
        CoolingPlanner p = Planners.busy();
        String before = Planners.state(p);
        change.apply(p);
        Check.same("49: " + what + " changes something", false, Planners.state(p).equals(before));
        Check.same("49: undo of " + what, 5, p.undo());
        Check.same("49: as before " + what, before, Planners.state(p));
    }

    private static void everyChange() {
        undone("addRack", p -> p.addRack(3, 3, 3));
        undone("removeRack", p -> p.removeRack(0));
        undone("moveRack", p -> p.moveRack(1, 0, 5));
        undone("setLoad", p -> p.setLoad(0, 6));
        undone("migrate", p -> p.migrate(0, 1, 2));
        undone("setFan", p -> p.setFan(3, 9));
        undone("setCurvePoint", p -> p.setCurvePoint(0, 3));
        undone("setLimit", p -> p.setLimit(44));
        undone("advance", p -> p.advance(8));
        undone("runScript", p -> Check.run(p, "drop 0;wait"));
    }

    private static void noChange() {
        CoolingPlanner p = new CoolingPlanner();
        p.addRack(0, 0, 5);
        p.setLoad(0, 5);
        p.setFan(0, 5);
        p.setLimit(27);
        p.setCurvePoint(1, 50);
        Check.refused("49: refused calls do not count", Check.INDEX, () -> p.removeRack(3));
        p.save();
        p.renderRack(0);
        p.type('x');
        p.isConsistent();
        Check.same("49: changes to the same state count", 4, p.undo());
        Check.same("49: and again", 3, p.undo());
        Check.same("49: and again", 2, p.undo());
        Check.same("49: and again", 1, p.undo());
        Check.same("49: the rack is still there", 1, p.rackCount());
        Check.same("49: the first", 0, p.undo());
        Check.same("49: no rack", 0, p.rackCount());
        Check.refused("49: nothing left", Check.ELEMENT, () -> p.undo());
    }

    private static void eightChanges() {
        CoolingPlanner p = new CoolingPlanner();
        for (int limit = 21; limit <= 40; limit++) {
            p.setLimit(limit);
        }
        for (int left = 7; left >= 0; left--) {
            Check.same("49: left", left, p.undo());
            Check.same("49: limit", 32 + left, p.limit());
        }
        Check.refused("49: the ninth", Check.ELEMENT, () -> p.undo());
        Check.same("49: not undone", 32, p.limit());
    }

    private static void newChangeAfterUndo() {
        CoolingPlanner p = new CoolingPlanner();
        for (int limit = 21; limit <= 30; limit++) {
            p.setLimit(limit);
        }
        p.undo();
        p.undo();
        p.undo();
        Check.same("49: back at", 27, p.limit());
        p.setLimit(50);
        Check.same("49: five and the new one", 5, p.undo());
        Check.same("49: back again", 27, p.limit());
        Check.same("49: further back", 4, p.undo());
        Check.same("49: an older one", 26, p.limit());
    }

    private static void refusedAfterEight() {
        CoolingPlanner p = new CoolingPlanner();
        for (int limit = 21; limit <= 28; limit++) {
            p.setLimit(limit);
        }
        Check.refused("9: refused", Check.ARGUMENT, () -> p.setLimit(61));
        Check.refused("46: refused", Check.STATE, () -> Check.run(p, "limit 50;limit 61"));
        for (int left = 7; left >= 0; left--) {
            Check.same("49: left", left, p.undo());
        }
        Check.same("49: the state before the eight", 27, p.limit());
        Check.refused("9: refused again", Check.ARGUMENT, () -> p.setLimit(61));
        Check.refused("49: nothing left", Check.ELEMENT, () -> p.undo());
    }

    private static void snapshot() {
        CoolingPlanner p = new CoolingPlanner();
        Check.refused("51: no snapshot", Check.STATE, () -> p.restore());
        Check.same("50: no racks", 0, p.save());
        CoolingPlanner q = Planners.busy();
        Check.same("50: racks", 3, q.save());
        String saved = Planners.state(q);
        q.removeRack(0);
        q.moveRack(0, 3, 3);
        q.setLoad(0, 19);
        q.setFan(0, 0);
        q.setCurvePoint(2, 133);
        q.setLimit(33);
        q.advance(9);
        q.undo();
        Check.same("51: racks", 3, q.restore());
        Check.same("51: as saved", saved, Planners.state(q));
        Check.refused("51: nothing to undo", Check.ELEMENT, () -> q.undo());
        Check.same("51: still as saved", saved, Planners.state(q));
        q.addRack(3, 3, 3);
        Check.same("51: kept, and again", 3, q.restore());
        Check.same("51: as saved again", saved, Planners.state(q));
        q.addRack(3, 3, 3);
        Check.same("50: replaced", 4, q.save());
        Check.same("50: not a change", 0, q.undo());
        Check.same("51: the later one", 4, q.restore());
    }

    private static void notCovered() {
        CoolingPlanner p = new CoolingPlanner();
        p.addRack(0, 0, 1);
        p.save();
        p.renderRack(0);
        Check.type(p, "wait");
        p.undo();
        Check.same("49: the buffer stays", 5, p.type(';'));
        p.restore();
        Check.same("51: the buffer stays", 6, p.type('w'));
        Check.refused("46: cut off", Check.ARGUMENT, () -> p.runScript());
        p.restore();
        Check.same("51: the error position stays", 6, p.errorPosition());
        Check.same("51: the output stays", "0@0.0:1", Check.output(p, 7));
        p.setLimit(30);
        p.undo();
        Check.same("49: the snapshot stays", 1, p.restore());
    }
}
