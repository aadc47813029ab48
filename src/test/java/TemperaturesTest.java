/** Promises 9, 22 to 27, 34, 39 and 40: temperatures, the limit and hot racks. */
public final class TemperaturesTest {
    public static void main(String[] args) {
        setLimit();
        inletTemperature();
        rise();
        temperature();
        exactlyAtTheLimit();
        hotRacks();
        means();
        Check.end();
    }

    private static void setLimit() {
        CoolingPlanner p = new CoolingPlanner();
        Check.same("9: previous", 27, p.setLimit(20));
        Check.same("9: previous again", 20, p.setLimit(60));
        Check.same("34: limit", 60, p.limit());
        Check.refused("9: 19", Check.ARGUMENT, () -> p.setLimit(19));
        Check.refused("9: 61", Check.ARGUMENT, () -> p.setLimit(61));
        Check.same("34: unchanged", 60, p.limit());
    }

    private static void inletTemperature() {
        CoolingPlanner p = new CoolingPlanner();
        p.addRack(0, 0, 7);
        p.addRack(1, 0, 11);
        p.addRack(2, 0, 13);
        p.addRack(3, 0, 17);
        Check.same("22: aisle 0", 18.0f + 0.05f * 11f + 0.1f * 0f, p.inletTemperature(0));
        Check.same("22: aisle 1", 18.0f + 0.05f * 20f + 0.1f * 0f, p.inletTemperature(1));
        Check.same("22: aisle 2", 18.0f + 0.05f * 28f + 0.1f * 0f, p.inletTemperature(2));
        Check.same("22: aisle 3", 18.0f + 0.05f * 13f + 0.1f * 0f, p.inletTemperature(3));
        p.setFan(1, 0);
        p.advance(3);
        Check.same("22: with stored heat", 18.0f + 0.05f * 20f + 0.1f * 33f, p.inletTemperature(1));
        Check.same("22: a neighbour's stored heat does not count", 18.0f + 0.05f * 11f, p.inletTemperature(0));
        Check.refused("22: aisle -1", Check.INDEX, () -> p.inletTemperature(-1));
        Check.refused("22: aisle 4", Check.INDEX, () -> p.inletTemperature(4));
    }

    private static void rise() {
        CoolingPlanner p = new CoolingPlanner();
        p.setFan(0, 0);
        Check.same("23: no heat and no airflow", 0.0f, p.rise(0));
        p.addRack(0, 0, 0);
        Check.same("23: a rack without load", 0.0f, p.rise(0));
        p.setLoad(0, 1);
        Check.same("23: no airflow", 40.0f, p.rise(0));
        p.setFan(0, 3);
        Check.same("23: little heat", 2.5f * 1f / 30f, p.rise(0));
        p.setCurvePoint(1, 1);
        p.setFan(0, 1);
        Check.same("23: little airflow", 2.5f * 1f / 0.2f, p.rise(0));
        p.setLoad(0, 3);
        Check.same("23: below the greatest rise", 2.5f * 3f / 0.2f, p.rise(0));
        p.setLoad(0, 4);
        Check.same("23: the greatest rise", 40.0f, p.rise(0));
        p.setCurvePoint(1, 6);
        p.setLoad(0, 19);
        Check.same("23: just below the greatest rise", 2.5f * 19f / 1.2f, p.rise(0));
        p.setCurvePoint(1, 8);
        p.setLoad(0, 20);
        p.addRack(0, 1, 6);
        Check.same("23: just above the greatest rise", 40.0f, p.rise(0));
        Check.refused("23: aisle -1", Check.INDEX, () -> p.rise(-1));
        Check.refused("23: aisle 4", Check.INDEX, () -> p.rise(4));
    }

    private static void temperature() {
        CoolingPlanner p = new CoolingPlanner();
        p.setFan(1, 7);
        for (int place = 0; place < 6; place++) {
            p.addRack(1, place, 3 + place);
        }
        p.addRack(2, 1, 19);
        float inlet = 18.0f + 0.05f * 19f + 0.1f * 0f;
        for (int place = 0; place < 6; place++) {
            float due = inlet + 2.5f * 33f / 62f * (1.0f + place / 10.0f);
            Check.same("24: place " + place, due, p.temperature(place));
        }
        Check.refused("24: rack -1", Check.INDEX, () -> p.temperature(-1));
        Check.refused("24: rack 7", Check.INDEX, () -> p.temperature(7));
    }

    private static void exactlyAtTheLimit() {
        CoolingPlanner p = new CoolingPlanner();
        p.addRack(0, 0, 20);
        p.addRack(0, 1, 20);
        p.addRack(1, 0, 0);
        p.setLimit(20);
        Check.same("24: as warm as the limit", 20.0f, p.temperature(2));
        Check.same("25: as warm as the limit", false, p.isHot(2));
        p.addRack(2, 0, 1);
        Check.same("25: warmer than the limit", true, p.isHot(2));
        Check.refused("25: rack -1", Check.INDEX, () -> p.isHot(-1));
        Check.refused("25: rack 4", Check.INDEX, () -> p.isHot(4));
    }

    private static void hotRacks() {
        CoolingPlanner p = new CoolingPlanner();
        Check.same("26: no racks", 0, p.hotSpots());
        Check.same("27: no racks", 0, p.hotSpotsByPlaces());
        p.addRack(3, 5, 20);
        p.addRack(3, 1, 20);
        p.addRack(0, 2, 1);
        p.setLimit(20);
        Check.same("26: two", 2, p.hotSpots());
        Check.same("27: two", 2, p.hotSpotsByPlaces());
        p.setFan(0, 0);
        Check.same("26: three", 3, p.hotSpots());
        Check.same("27: three", 3, p.hotSpotsByPlaces());
        p.setFan(0, 5);
        p.setLimit(60);
        Check.same("26: none", 0, p.hotSpots());
        Check.same("27: none", 0, p.hotSpotsByPlaces());
    }

    private static void means() {
        CoolingPlanner p = new CoolingPlanner();
        Check.refused("39: no racks", Check.ARITHMETIC, () -> p.meanTemperature());
        Check.refused("40: no racks", Check.ARITHMETIC, () -> p.hotShare());
        p.addRack(0, 1, 13);
        p.addRack(1, 2, 7);
        p.addRack(1, 5, 19);
        p.setFan(1, 0);
        double sum = (double) p.temperature(0) + (double) p.temperature(1) + (double) p.temperature(2);
        Check.same("39: meanTemperature", sum / 3.0, p.meanTemperature());
        Check.same("40: hotShare", 2f / 3f, p.hotShare());
        p.setLimit(60);
        p.setFan(1, 10);
        Check.same("40: none hot", 0.0f, p.hotShare());
    }
}
