/** Promises 42 to 44: descriptions in the output text. */
public final class OutputTest {
    public static void main(String[] args) {
        renderRack();
        renderAisle();
        outputAt();
        Check.end();
    }

    private static void rack(CoolingPlanner p, int rack, String due) {
        Check.same("42: renderRack " + rack, due.length(), p.renderRack(rack));
        Check.same("42: text of rack " + rack, due, Check.output(p, due.length()));
        Check.refused("44: behind the text", Check.INDEX, () -> p.outputAt(due.length()));
    }

    private static void aisle(CoolingPlanner p, int aisle, String due) {
        Check.same("43: renderAisle " + aisle, due.length(), p.renderAisle(aisle));
        Check.same("43: text of aisle " + aisle, due, Check.output(p, due.length()));
        Check.refused("44: behind the text", Check.INDEX, () -> p.outputAt(due.length()));
    }

    private static void renderRack() {
        CoolingPlanner p = new CoolingPlanner();
        Check.refused("42: no racks", Check.INDEX, () -> p.renderRack(0));
        p.addRack(0, 0, 0);
        p.addRack(2, 0, 1);
        p.addRack(3, 5, 20);
        p.addRack(1, 5, 12);
        rack(p, 0, "0@0.0:0");
        rack(p, 3, "3@1.5:12");
        p.setFan(1, 0);
        rack(p, 3, "3@1.5:12!");
        p.setFan(1, 10);
        for (int i = 0; i < 6; i++) {
            p.addRack(i / 3, i % 3 + 1, i);
        }
        p.addRack(2, 1, 5);
        rack(p, 10, "10@2.1:5");
        Check.refused("42: rack -1", Check.INDEX, () -> p.renderRack(-1));
        Check.refused("42: rack 11", Check.INDEX, () -> p.renderRack(11));
    }

    private static void renderAisle() {
        CoolingPlanner p = new CoolingPlanner();
        aisle(p, 1, "f5 -,-,-,-,-,-");
        p.addRack(1, 5, 20);
        p.addRack(1, 0, 12);
        p.addRack(1, 2, 3);
        p.addRack(2, 1, 0);
        aisle(p, 1, "f5 12,-,3,-,-,20");
        p.setFan(2, 10);
        aisle(p, 2, "f10 -,0,-,-,-,-");
        p.setFan(3, 0);
        aisle(p, 3, "f0 -,-,-,-,-,-");
        Check.refused("43: aisle -1", Check.INDEX, () -> p.renderAisle(-1));
        Check.refused("43: aisle 4", Check.INDEX, () -> p.renderAisle(4));
    }

    private static void outputAt() {
        CoolingPlanner p = new CoolingPlanner();
        Check.refused("44: empty", Check.INDEX, () -> p.outputAt(0));
        p.addRack(2, 3, 4);
        p.renderRack(0);
        Check.refused("42: refused", Check.INDEX, () -> p.renderRack(1));
        Check.refused("43: refused", Check.INDEX, () -> p.renderAisle(9));
        Check.same("44: the text stays", "0@2.3:4", Check.output(p, 7));
        p.removeRack(0);
        p.undo();
        p.undo();
        Check.same("44: undo leaves the text alone", "0@2.3:4", Check.output(p, 7));
        p.save();
        p.restore();
        Check.same("44: restore leaves the text alone", "0@2.3:4", Check.output(p, 7));
        Check.refused("44: -1", Check.INDEX, () -> p.outputAt(-1));
        Check.refused("44: 7", Check.INDEX, () -> p.outputAt(7));
        Check.refused("44: the least", Check.INDEX, () -> p.outputAt(Integer.MIN_VALUE));
        Check.refused("44: the greatest", Check.INDEX, () -> p.outputAt(Integer.MAX_VALUE));
    }
}
