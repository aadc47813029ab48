import java.util.function.Supplier;

/** Planners that several tests begin with, and what can be asked of a planner, as one text. */
final class Planners {
    /** How many changes can be undone, and one more. */
    private static final int ONE_UNDO_TOO_MANY = 9;

    private Planners() {
    }

    /** Three racks, a slow fan and stored heat: five changes. */
    static CoolingPlanner busy() {
        CoolingPlanner p = new CoolingPlanner();
        p.addRack(0, 0, 5);
        p.addRack(1, 1, 7);
        p.addRack(2, 2, 20);
        p.setFan(2, 1);
        p.advance(3);
        return p;
    }

    /** Twelve racks with the loads 1 to 12, three in each aisle: twelve changes. */
    static CoolingPlanner full() {
        CoolingPlanner p = new CoolingPlanner();
        for (int i = 0; i < 12; i++) {
            p.addRack(i % 4, i / 4, i + 1);
        }
        return p;
    }

    /** Twelve racks of 20 kilowatts, which fill the aisles 0 and 1. */
    static CoolingPlanner crowded() {
        CoolingPlanner p = new CoolingPlanner();
        for (int i = 0; i < 12; i++) {
            p.addRack(i / 6, i % 6, 20);
        }
        return p;
    }

    /** Something in everything that a refused call could spoil but the script buffer, which is empty. */
    static CoolingPlanner ladenWithoutScript() {
        CoolingPlanner p = busy();
        p.save();
        p.setCurvePoint(1, 40);
        p.setLimit(31);
        p.addRack(3, 5, 0);
        p.removeRack(0);
        p.setLoad(0, 20);
        p.advance(2);
        return withTextAndPositions(p);
    }

    /** The same with the beginning of a script: the racks are 20 kilowatts at 1.1, 20 at 2.2 and 0 at 3.5. */
    static CoolingPlanner laden() {
        CoolingPlanner p = ladenWithoutScript();
        Check.type(p, "limit 3");
        return p;
    }

    /** As many racks as there can be, and something in everything else. */
    static CoolingPlanner ladenAndFull() {
        CoolingPlanner p = full();
        p.setFan(3, 0);
        p.advance(1);
        p.save();
        p.setLoad(11, 20);
        return withTextAndPositions(p);
    }

    /** The output text is that of rack 1, the error position 2, and the index of the failed command 1. */
    static CoolingPlanner withTextAndPositions(CoolingPlanner p) {
        p.renderRack(1);
        Check.refused("46: no form", Check.ARGUMENT, () -> Check.run(p, "wax"));
        Check.refused("46: no such rack", Check.STATE, () -> Check.run(p, "wait;drop 12"));
        return p;
    }

    /** No racks, and a curve with these airflows; five changes. */
    static CoolingPlanner withCurve(int atZero, int atFive, int atTen) {
        CoolingPlanner p = new CoolingPlanner();
        p.setCurvePoint(2, 200);
        p.setCurvePoint(1, 200);
        p.setCurvePoint(0, atZero);
        p.setCurvePoint(1, atFive);
        p.setCurvePoint(2, atTen);
        return p;
    }

    static CoolingPlanner withFansAt(CoolingPlanner p, int speed) {
        for (int aisle = 0; aisle < 4; aisle++) {
            p.setFan(aisle, speed);
        }
        return p;
    }

    /** All that undo and the snapshot cover. */
    static String state(CoolingPlanner p) {
        StringBuilder text = new StringBuilder();
        for (int rack = 0; rack < p.rackCount(); rack++) {
            text.append(p.aisleOf(rack)).append('.').append(p.placeOf(rack)).append(':').append(p.load(rack));
            text.append(' ');
        }
        for (int aisle = 0; aisle < 4; aisle++) {
            text.append(p.fanSpeed(aisle)).append('/').append(p.storedHeat(aisle)).append(' ');
        }
        for (int point = 0; point < 3; point++) {
            text.append(p.curvePoint(point)).append(' ');
        }
        text.append(p.limit()).append(' ').append(p.minute()).append(' ').append(p.madeTotal()).append(' ');
        return text.append(p.carriedTotal()).append(' ').append(p.energyTotal()).toString();
    }

    /** The answers of all queries that compute something from the state. */
    static String computed(CoolingPlanner p) {
        StringBuilder text = new StringBuilder();
        for (int rack = 0; rack < p.rackCount(); rack++) {
            int index = rack;
            text.append(p.temperature(rack)).append(' ').append(p.isHot(rack)).append(' ');
            text.append(Check.answerOf(() -> p.minutesUntilHot(index))).append(' ');
            text.append(p.rackByTemperature(rack)).append('\n');
        }
        for (int aisle = 0; aisle < 4; aisle++) {
            int index = aisle;
            text.append(p.heat(aisle)).append(' ').append(p.inletTemperature(aisle)).append(' ');
            text.append(p.rise(aisle)).append(' ').append(p.aisleByHeat(aisle)).append(' ');
            text.append(Check.answerOf(() -> p.neededSpeed(index))).append(' ');
            text.append(Check.answerOf(() -> p.neededSpeedBySearch(index))).append('\n');
        }
        for (int speed = 0; speed <= 10; speed++) {
            text.append(p.airflowAt(speed)).append(' ');
        }
        text.append(p.totalLoad()).append(' ').append(p.totalLoadByAisles()).append(' ');
        text.append(p.hotSpots()).append(' ').append(p.hotSpotsByPlaces()).append(' ');
        text.append(Check.answerOf(p::meanTemperature)).append(' ').append(Check.answerOf(p::hotShare)).append(' ');
        return text.append(p.isConsistent()).toString();
    }

    /** The states that undo leads back to, one after the other, and what it answers when there are no more. */
    static String past(Supplier<CoolingPlanner> maker) {
        StringBuilder text = new StringBuilder();
        for (int undos = 0; undos <= ONE_UNDO_TOO_MANY; undos++) {
            CoolingPlanner p = maker.get();
            for (int i = 0; i < undos; i++) {
                text.append(Check.answerOf(p::undo)).append(' ');
            }
            text.append(state(p)).append('\n');
        }
        return text.toString();
    }

    /** What restore answers, and the state that it leads back to. */
    static String saved(CoolingPlanner p) {
        return Check.answerOf(p::restore) + " " + state(p);
    }

    /** The output text, as far as it goes. */
    static String output(CoolingPlanner p) {
        StringBuilder text = new StringBuilder();
        for (int i = 0; i <= 100; i++) {
            int index = i;
            Object answer = Check.answerOf(() -> p.outputAt(index));
            if (!(answer instanceof Character)) {
                return text.append('|').append(answer).toString();
            }
            text.append(answer);
        }
        return text.toString();
    }

    static String positions(CoolingPlanner p) {
        return Check.answerOf(p::errorPosition) + " " + Check.answerOf(p::failedCommand);
    }

    /** What a digit and the run of the script buffer come to: the digit's place, the answer and where it leads. */
    static String buffer(CoolingPlanner p) {
        StringBuilder text = new StringBuilder().append(Check.answerOf(() -> p.type('2'))).append(' ');
        return text.append(Check.answerOf(p::runScript)).append(' ').append(state(p)).append(positions(p)).toString();
    }

    /** All that a planner answers, each part asked of a planner of its own, so that no part disturbs another. */
    static String everything(Supplier<CoolingPlanner> maker) {
        return String.join("\n", covered(maker), output(maker.get()), positions(maker.get()), buffer(maker.get()));
    }

    /** The same without the texts and positions, which undo and the snapshot do not cover. */
    static String covered(Supplier<CoolingPlanner> maker) {
        return String.join("\n", state(maker.get()), computed(maker.get()), past(maker), saved(maker.get()));
    }
}
