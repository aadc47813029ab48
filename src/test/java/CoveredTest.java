import java.util.function.Consumer;
import java.util.function.Function;
import java.util.function.Supplier;

/** What is a change and what is not, what undo and the snapshot cover, and what they do not cover. */
public final class CoveredTest {
    /** A call of each method whose call is a change, some of which leave the state as it is. */
    private enum Change {
        ADD_RACK(p -> p.addRack(3, 3, 3)),
        REMOVE_FIRST_RACK(p -> p.removeRack(0)),
        REMOVE_LAST_RACK(p -> p.removeRack(2)),
        MOVE_RACK(p -> p.moveRack(0, 3, 4)),
        MOVE_RACK_IN_ITS_AISLE(p -> p.moveRack(0, 0, 1)),
        SET_LOAD(p -> p.setLoad(1, 20)),
        SET_SAME_LOAD(p -> p.setLoad(1, 7)),
        MIGRATE(p -> p.migrate(1, 0, 7)),
        SET_FAN(p -> p.setFan(0, 10)),
        SET_SAME_FAN(p -> p.setFan(0, 5)),
        SET_CURVE_POINT(p -> p.setCurvePoint(2, 200)),
        SET_SAME_CURVE_POINT(p -> p.setCurvePoint(2, 80)),
        SET_LIMIT(p -> p.setLimit(60)),
        SET_SAME_LIMIT(p -> p.setLimit(27)),
        ADVANCE(p -> p.advance(1)),
        ADVANCE_AN_HOUR(p -> p.advance(60)),
        RUN_SCRIPT(p -> Check.run(p, "drop 1;wait 2;rack 0 5 3")),
        RUN_SCRIPT_TO_THE_SAME_STATE(p -> Check.run(p, "limit 27")),
        RUN_LONG_SCRIPT(p -> Check.run(p, "wait;".repeat(11) + "wait"));

        final Function<CoolingPlanner, Object> call;

        Change(Function<CoolingPlanner, Object> call) {
            this.call = call;
        }

        boolean leavesTheState() {
            return name().contains("SAME");
        }
    }

    public static void main(String[] args) {
        changesCount();
        nothingElseCounts();
        undoCoversEachChange();
        undoOfEightOfAKind();
        snapshotCoversEachChange();
        undoCoversSeveralAtOnce();
        texts();
        positions();
        undoLeavesTheSnapshot();
        saveLeavesTheChanges();
        restoreLeavesNothingToUndo();
        snapshotIsKept();
        snapshotIsReplaced();
        refusedRestoreLeavesTheChanges();
        changesAfterUndo();
        changesAfterRestore();
        longUse();
        Check.end();
    }

    private static CoolingPlanner savedBusy() {
        CoolingPlanner p = Planners.busy();
        p.save();
        return p;
    }

    private static CoolingPlanner after(Supplier<CoolingPlanner> maker, Change change) {
        CoolingPlanner p = maker.get();
        change.call.apply(p);
        return p;
    }

    private static void changesCount() {
        for (Change change : Change.values()) {
            String before = Planners.state(Planners.busy());
            String behind = Planners.state(after(Planners::busy, change));
            Check.same("49: " + change + " leaves the state", change.leavesTheState(), before.equals(behind));
            Check.same("49: " + change + " is one change", 5, after(Planners::busy, change).undo());
        }
    }

    private static void noChange(String what, Function<CoolingPlanner, Object> call) {
        Supplier<CoolingPlanner> behind = () -> {
            CoolingPlanner p = Planners.laden();
            call.apply(p);
            return p;
        };
        Check.same("49: no change is " + what, Planners.past(Planners::laden), Planners.past(behind));
        Check.same("51: the snapshot stays, " + what, Planners.saved(Planners.laden()), Planners.saved(behind.get()));
    }

    private static void nothingElseCounts() {
        noChange("the state", p -> Planners.state(p));
        noChange("what is computed, predictions too", p -> Planners.computed(p));
        noChange("rackAt", p -> p.rackAt(1, 1));
        noChange("renderRack", p -> p.renderRack(0));
        noChange("renderAisle", p -> p.renderAisle(3));
        noChange("outputAt", p -> p.outputAt(0));
        noChange("type", p -> p.type('0'));
        noChange("errorPosition", p -> p.errorPosition());
        noChange("failedCommand", p -> p.failedCommand());
        noChange("a script without form", p -> Check.answerOf(() -> Check.run(p, "x")));
        noChange("a script that fails", p -> Check.answerOf(() -> Check.run(p, "3;wait;drop 9")));
        noChange("a refused change", p -> Check.answerOf(() -> p.addRack(0, 0, 21)));
        Check.same("49: no change is save", Planners.past(Planners::busy), Planners.past(CoveredTest::savedBusy));
    }

    private static void undoCoversEachChange() {
        for (Change change : Change.values()) {
            Supplier<CoolingPlanner> undone = () -> {
                CoolingPlanner p = after(CoveredTest::savedBusy, change);
                p.undo();
                return p;
            };
            String before = Planners.everything(CoveredTest::savedBusy);
            Check.same("49: undo of " + change, before, Planners.everything(undone));
        }
    }

    /** With eight changes behind it, a planner goes back just to where it was before them. */
    private static void undoOfEightOfAKind() {
        Change[] changes = {Change.SET_SAME_LOAD, Change.SET_FAN, Change.ADVANCE, Change.RUN_SCRIPT_TO_THE_SAME_STATE};
        for (Change change : changes) {
            CoolingPlanner p = after(Planners::busy, change);
            String before = Planners.state(p);
            for (int i = 0; i < 8; i++) {
                change.call.apply(p);
            }
            for (int left = 7; left >= 0; left--) {
                Check.same("49: left of eight " + change, left, p.undo());
            }
            Check.refused("49: the ninth " + change, Check.ELEMENT, () -> p.undo());
            Check.same("49: before eight " + change, before, Planners.state(p));
        }
    }

    private static void snapshotCoversEachChange() {
        String before = Planners.state(Planners.busy());
        String computed = Planners.computed(Planners.busy());
        for (Change change : Change.values()) {
            CoolingPlanner p = after(CoveredTest::savedBusy, change);
            Check.same("51: racks before " + change, 3, p.restore());
            Check.same("51: the state before " + change, before, Planners.state(p));
            Check.same("51: the answers before " + change, computed, Planners.computed(p));
        }
    }

    private static void undoCoversSeveralAtOnce() {
        Change[] changes = {Change.ADD_RACK, Change.REMOVE_FIRST_RACK, Change.MOVE_RACK, Change.MIGRATE, Change.SET_FAN,
            Change.SET_CURVE_POINT, Change.SET_LIMIT, Change.ADVANCE_AN_HOUR};
        CoolingPlanner p = Planners.busy();
        p.setLoad(2, 7);
        String[] states = new String[changes.length];
        for (int i = 0; i < changes.length; i++) {
            states[i] = Planners.state(p);
            changes[i].call.apply(p);
        }
        for (int i = changes.length - 1; i >= 0; i--) {
            Check.same("49: left before " + changes[i], i, p.undo());
            Check.same("49: the latest first, " + changes[i], states[i], Planners.state(p));
        }
    }

    private static void goBack(String what, Consumer<CoolingPlanner> step, Function<CoolingPlanner, Object> answer) {
        Supplier<CoolingPlanner> maker = () -> {
            CoolingPlanner p = savedBusy();
            p.setFan(2, 10);
            p.setLimit(60);
            step.accept(p);
            return p;
        };
        Object due = answer.apply(maker.get());
        CoolingPlanner undone = maker.get();
        undone.undo();
        undone.undo();
        Check.same("49: undo leaves " + what, due, answer.apply(undone));
        CoolingPlanner restored = maker.get();
        restored.restore();
        Check.same("51: restore leaves " + what, due, answer.apply(restored));
        CoolingPlanner saved = maker.get();
        saved.save();
        Check.same("50: save leaves " + what, due, answer.apply(saved));
    }

    private static void texts() {
        goBack("the output text", p -> p.renderAisle(2), Planners::output);
        goBack("the empty output text", p -> { }, Planners::output);
        goBack("the script buffer", p -> Check.type(p, "limit 3"),
                p -> p.type('3') + " " + p.runScript() + " " + p.limit());
        goBack("the empty script buffer", p -> { }, p -> p.type('x'));
        goBack("the full script buffer", p -> Check.type(p, "x".repeat(60)), p -> Check.answerOf(() -> p.type('x')));
    }

    private static void positions() {
        goBack("that there are no positions", p -> { }, Planners::positions);
        goBack("the error position", p -> Check.answerOf(() -> Check.run(p, "waiting")), Planners::positions);
        goBack("the failed command", p -> Check.answerOf(() -> Check.run(p, "wait;wait;drop 9")), Planners::positions);
        goBack("both", p -> Planners.withTextAndPositions(p), Planners::positions);
    }

    private static void undoLeavesTheSnapshot() {
        CoolingPlanner p = Planners.busy();
        p.setLimit(40);
        p.save();
        String saved = Planners.state(p);
        for (int left = 5; left >= 0; left--) {
            Check.same("49: left", left, p.undo());
        }
        Check.same("11: before the first rack", 0, p.rackCount());
        Check.same("51: racks", 3, p.restore());
        Check.same("51: as saved", saved, Planners.state(p));
    }

    private static void saveLeavesTheChanges() {
        CoolingPlanner p = Planners.busy();
        String before = Planners.state(p);
        p.setLimit(40);
        Check.same("50: save", 3, p.save());
        Check.same("49: what was changed before it", 5, p.undo());
        Check.same("49: is undone", before, Planners.state(p));
    }

    private static void restoreLeavesNothingToUndo() {
        for (int changes = 0; changes <= 9; changes++) {
            CoolingPlanner p = new CoolingPlanner();
            p.save();
            for (int i = 0; i < changes; i++) {
                p.setLimit(30 + i);
            }
            p.restore();
            Check.refused("49: nothing, restored after " + changes, Check.ELEMENT, () -> p.undo());
            Check.same("51: the limit, restored after " + changes, 27, p.limit());
        }
    }

    private static void snapshotIsKept() {
        String saved = Planners.state(Planners.busy());
        for (Change change : Change.values()) {
            CoolingPlanner p = savedBusy();
            for (int times = 1; times <= 3; times++) {
                change.call.apply(p);
                Check.same("51: racks, before " + change + " " + times, 3, p.restore());
                Check.same("51: as saved, before " + change + " " + times, saved, Planners.state(p));
            }
        }
    }

    private static void snapshotIsReplaced() {
        CoolingPlanner p = savedBusy();
        p.removeRack(1);
        Check.same("50: the later one", 2, p.save());
        p.removeRack(1);
        p.removeRack(0);
        Check.same("51: the later one", 2, p.restore());
        Check.same("51: its second rack", 20, p.load(1));
        Check.same("50: the same once more", 2, p.save());
        Check.same("51: the same once more", 2, p.restore());
    }

    private static void refusedRestoreLeavesTheChanges() {
        CoolingPlanner p = Planners.busy();
        Check.refused("51: no snapshot", Check.STATE, () -> p.restore());
        for (int left = 4; left >= 0; left--) {
            Check.same("49: left", left, p.undo());
        }
    }

    private static void changesAfterUndo() {
        for (int undos = 0; undos <= 8; undos++) {
            for (int more = 0; more <= 9; more++) {
                changesAfterUndo(undos, more);
            }
        }
    }

    /** Twenty changes, some undone, and some new ones: the latest 8 that stand can be undone, and none of the first. */
    private static void changesAfterUndo(int undos, int more) {
        CoolingPlanner p = new CoolingPlanner();
        for (int limit = 21; limit <= 40; limit++) {
            p.setLimit(limit);
        }
        for (int i = 0; i < undos; i++) {
            p.undo();
        }
        for (int i = 0; i < more; i++) {
            p.setLimit(51 + i);
        }
        String what = "49: " + undos + " undone, " + more + " new, left ";
        for (int left = Math.min(8, 8 - undos + more) - 1; left >= 0; left--) {
            int fromNewOnes = more - (Math.min(8, 8 - undos + more) - left);
            int due = fromNewOnes > 0 ? 50 + fromNewOnes : 40 - undos + fromNewOnes;
            Check.same(what + left, left, p.undo());
            Check.same(what + left + ", limit", due, p.limit());
        }
        Check.refused(what + "none", Check.ELEMENT, () -> p.undo());
    }

    private static void changesAfterRestore() {
        for (int changes = 1; changes <= 10; changes++) {
            CoolingPlanner p = Planners.laden();
            p.restore();
            String restored = Planners.state(p);
            for (int i = 0; i < changes; i++) {
                p.setLimit(40 + i);
            }
            int undoable = Math.min(8, changes);
            for (int left = undoable - 1; left >= 0; left--) {
                Check.same("49: left of " + changes + " after restore", left, p.undo());
            }
            Check.refused("49: none from before restore", Check.ELEMENT, () -> p.undo());
            Check.same("51: the state, or what followed", changes <= 8, restored.equals(Planners.state(p)));
            p.restore();
            Check.same("51: the snapshot is as it was", restored, Planners.state(p));
        }
    }

    /** Many times as many changes and refused calls as can be kept. */
    private static void longUse() {
        CoolingPlanner p = new CoolingPlanner();
        for (int round = 0; round < 16; round++) {
            for (int i = 0; i < 9; i++) {
                p.setLimit(20 + round + i);
                Check.refused("9: refused", Check.ARGUMENT, () -> p.setLimit(61));
            }
            for (int left = 7; left >= 3; left--) {
                Check.same("49: left", left, p.undo());
                Check.same("49: limit", 20 + round + left, p.limit());
            }
        }
    }
}
