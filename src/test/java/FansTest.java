/** Promises 7, 8 and 19 to 21: fans and their curve. */
public final class FansTest {
    public static void main(String[] args) {
        setFan();
        setCurvePoint();
        airflowAt();
        Check.end();
    }

    private static void setFan() {
        CoolingPlanner p = new CoolingPlanner();
        Check.same("7: previous", 5, p.setFan(2, 10));
        Check.same("7: previous again", 10, p.setFan(2, 0));
        Check.same("19: fanSpeed", 0, p.fanSpeed(2));
        Check.same("19: of another aisle", 5, p.fanSpeed(3));
        Check.refused("7: aisle -1", Check.INDEX, () -> p.setFan(-1, 1));
        Check.refused("7: aisle 4", Check.INDEX, () -> p.setFan(4, 1));
        Check.refused("7: aisle before speed", Check.INDEX, () -> p.setFan(4, 11));
        Check.refused("7: speed -1", Check.ARGUMENT, () -> p.setFan(2, -1));
        Check.refused("7: speed 11", Check.ARGUMENT, () -> p.setFan(2, 11));
        Check.same("7: unchanged", 0, p.fanSpeed(2));
        Check.refused("19: aisle -1", Check.INDEX, () -> p.fanSpeed(-1));
        Check.refused("19: aisle 4", Check.INDEX, () -> p.fanSpeed(4));
    }

    private static void setCurvePoint() {
        CoolingPlanner p = new CoolingPlanner();
        Check.same("8: up to the next", 0, p.setCurvePoint(0, 50));
        Check.refused("8: above the next", Check.UNSUPPORTED, () -> p.setCurvePoint(0, 51));
        Check.refused("8: below the one before", Check.UNSUPPORTED, () -> p.setCurvePoint(1, 49));
        Check.refused("8: middle above the last", Check.UNSUPPORTED, () -> p.setCurvePoint(1, 81));
        Check.same("8: middle up to the last", 50, p.setCurvePoint(1, 80));
        Check.refused("8: last below the middle", Check.UNSUPPORTED, () -> p.setCurvePoint(2, 79));
        Check.same("8: last as the middle", 80, p.setCurvePoint(2, 80));
        Check.same("8: last at most", 80, p.setCurvePoint(2, 200));
        Check.same("8: first at least", 50, p.setCurvePoint(0, 0));
        Check.refused("8: point -1", Check.INDEX, () -> p.setCurvePoint(-1, 0));
        Check.refused("8: point 3", Check.INDEX, () -> p.setCurvePoint(3, 200));
        Check.refused("8: point before airflow", Check.INDEX, () -> p.setCurvePoint(3, 201));
        Check.refused("8: airflow -1", Check.ARGUMENT, () -> p.setCurvePoint(0, -1));
        Check.refused("8: airflow 201", Check.ARGUMENT, () -> p.setCurvePoint(2, 201));
        Check.refused("8: airflow before the curve", Check.ARGUMENT, () -> p.setCurvePoint(1, -1));
        Check.refused("8: airflow before the curve, above", Check.ARGUMENT, () -> p.setCurvePoint(1, 201));
        Check.same("20: point 0", 0, p.curvePoint(0));
        Check.same("20: point 1", 80, p.curvePoint(1));
        Check.same("20: point 2", 200, p.curvePoint(2));
        Check.refused("20: point -1", Check.INDEX, () -> p.curvePoint(-1));
        Check.refused("20: point 3", Check.INDEX, () -> p.curvePoint(3));
    }

    private static void airflowAt() {
        CoolingPlanner p = new CoolingPlanner();
        float[] initial = {0f, 10f, 20f, 30f, 40f, 50f, 56f, 62f, 68f, 74f, 80f};
        for (int speed = 0; speed <= 10; speed++) {
            Check.same("21: initial " + speed, initial[speed], p.airflowAt(speed));
        }
        p.setCurvePoint(2, 199);
        p.setCurvePoint(1, 98);
        p.setCurvePoint(0, 1);
        for (int speed = 0; speed <= 5; speed++) {
            Check.same("21: " + speed, 1f + 97f * speed / 5f, p.airflowAt(speed));
        }
        for (int speed = 6; speed <= 10; speed++) {
            Check.same("21: " + speed, 98f + 101f * (speed - 5) / 5f, p.airflowAt(speed));
        }
        Check.refused("21: speed -1", Check.ARGUMENT, () -> p.airflowAt(-1));
        Check.refused("21: speed 11", Check.ARGUMENT, () -> p.airflowAt(11));
    }
}
