/** The bounds within the terms: the curve, temperatures, hot racks, minutes, needed speeds and predictions. */
public final class TermsTest {
    public static void main(String[] args) {
        airflowsUpToFive();
        airflowsAboveFive();
        airflowsOfFlatCurves();
        inletTemperatures();
        risesWithoutHeat();
        risesWithoutAirflow();
        rises();
        greatestRise();
        temperatures();
        justAsWarmAsTheLimit();
        limitsOfHeat();
        airflowRoundedDown();
        carriedAway();
        energies();
        minutesOneByOne();
        neededSpeeds();
        neededSpeedAtEachBound();
        neededSpeedIgnoresOtherFans();
        hotInTheFirstAndLastMinute();
        predictionsWhileCooling();
        ranksOfEqualRacks();
        ranksOfEqualAisles();
        shares();
        Check.end();
    }

    private static void airflowsUpToFive() {
        for (int a = 0; a <= 200; a++) {
            for (int b = a; b <= 200; b++) {
                CoolingPlanner p = Planners.withCurve(a, b, 200);
                for (int s = 0; s <= 5; s++) {
                    Check.same("21: " + a + " to " + b + " at " + s, a + (float) (b - a) * s / 5.0f, p.airflowAt(s));
                }
            }
        }
    }

    private static void airflowsAboveFive() {
        for (int b = 0; b <= 200; b++) {
            for (int c = b; c <= 200; c++) {
                CoolingPlanner p = Planners.withCurve(0, b, c);
                for (int s = 6; s <= 10; s++) {
                    float due = b + (float) (c - b) * (s - 5) / 5.0f;
                    Check.same("21: " + b + " to " + c + " at " + s, due, p.airflowAt(s));
                }
            }
        }
    }

    private static void airflowsOfFlatCurves() {
        for (int airflow : new int[] {0, 1, 199, 200}) {
            CoolingPlanner p = Planners.withCurve(airflow, airflow, airflow);
            for (int speed = 0; speed <= 10; speed++) {
                Check.same("21: always " + airflow, (float) airflow, p.airflowAt(speed));
            }
        }
        CoolingPlanner p = Planners.withCurve(0, 0, 200);
        Check.same("21: the last speed of the first part", 0.0f, p.airflowAt(5));
        Check.same("21: the first speed of the second part", 40.0f, p.airflowAt(6));
        CoolingPlanner q = Planners.withCurve(0, 200, 200);
        Check.same("21: just below the middle", 160.0f, q.airflowAt(4));
        Check.same("21: the middle", 200.0f, q.airflowAt(5));
    }

    /** A load of its own in each aisle, whose sums are all different. */
    private static void inletTemperatures() {
        int[] loads = {1, 2, 4, 8};
        for (int mask = 0; mask < 16; mask++) {
            CoolingPlanner p = new CoolingPlanner();
            int[] heats = new int[6];
            for (int aisle = 0; aisle < 4; aisle++) {
                if ((mask >> aisle & 1) == 1) {
                    p.addRack(aisle, aisle, loads[aisle]);
                    heats[aisle + 1] = loads[aisle];
                }
            }
            Planners.withFansAt(p, 0).advance(3);
            for (int aisle = 0; aisle < 4; aisle++) {
                float due = 18.0f + 0.05f * (heats[aisle] + heats[aisle + 2]) + 0.1f * (3 * heats[aisle + 1]);
                Check.same("22: aisle " + aisle + " with " + mask, due, p.inletTemperature(aisle));
            }
        }
    }

    private static void risesWithoutHeat() {
        CoolingPlanner p = new CoolingPlanner();
        p.addRack(1, 3, 0);
        for (int speed = 0; speed <= 10; speed++) {
            p.setFan(0, speed);
            p.setFan(1, speed);
            Check.same("23: no rack, speed " + speed, 0.0f, p.rise(0));
            Check.same("23: no load, speed " + speed, 0.0f, p.rise(1));
        }
    }

    private static void risesWithoutAirflow() {
        CoolingPlanner p = Planners.withCurve(0, 0, 1);
        p.addRack(1, 3, 1);
        for (int speed = 0; speed <= 5; speed++) {
            p.setFan(1, speed);
            Check.same("23: no airflow at speed " + speed, 40.0f, p.rise(1));
        }
        p.setFan(1, 6);
        Check.same("23: 0.2 at speed 6", 2.5f * 1f / 0.2f, p.rise(1));
        p.setFan(1, 10);
        Check.same("23: 1 at speed 10", 2.5f, p.rise(1));
        p.setLoad(0, 0);
        p.setFan(1, 0);
        Check.same("23: neither heat nor airflow", 0.0f, p.rise(1));
    }

    private static void rises() {
        for (int heat = 1; heat <= 40; heat++) {
            for (int airflow = 1; airflow <= 200; airflow++) {
                CoolingPlanner p = Planners.withCurve(0, airflow, 200);
                p.addRack(2, 0, heat / 2);
                p.addRack(2, 5, heat - heat / 2);
                float rise = 2.5f * heat / airflow;
                Check.same("23: " + heat + " by " + airflow, rise < 40.0f ? rise : 40.0f, p.rise(2));
            }
        }
    }

    private static void greatestRise() {
        CoolingPlanner p = Planners.withCurve(0, 1, 200);
        p.addRack(3, 0, 15);
        Check.same("23: one kilowatt less", 37.5f, p.rise(3));
        p.setLoad(0, 16);
        Check.same("23: just 40", 40.0f, p.rise(3));
        p.setLoad(0, 17);
        Check.same("23: no more than 40", 40.0f, p.rise(3));
        Check.same("23: as near below 40 as can be", 2.5f * 115f / 7.2f, riseOf(115, 9, 4));
        Check.same("23: as near above 40 as can be", 40.0f, riseOf(109, 17, 2));
    }

    /** The rise by so many kilowatts in six racks, at a speed of up to 5 on a curve from 0 to the middle point. */
    private static float riseOf(int heat, int middle, int speed) {
        CoolingPlanner p = Planners.withCurve(0, middle, 200);
        for (int place = 0; place < 6; place++) {
            p.addRack(0, place, (heat + place) / 6);
        }
        Check.same("16: heat", heat, p.heat(0));
        p.setFan(0, speed);
        return p.rise(0);
    }

    private static void temperatures() {
        for (int load = 1; load <= 20; load++) {
            for (int speed = 0; speed <= 10; speed++) {
                CoolingPlanner p = new CoolingPlanner();
                for (int place = 0; place < 6; place++) {
                    p.addRack(2, place, load);
                }
                p.addRack(1, 0, 21 - load);
                p.addRack(3, 0, load / 2);
                p.setFan(2, speed);
                p.advance(2);
                float inlet = 18.0f + 0.05f * (21 - load + load / 2) + 0.1f * p.storedHeat(2);
                Check.same("22: inlet", inlet, p.inletTemperature(2));
                for (int place = 0; place < 6; place++) {
                    float due = inlet + p.rise(2) * (1.0f + place / 10.0f);
                    Check.same("24: place " + place + ", load " + load + ", speed " + speed, due, p.temperature(place));
                }
            }
        }
    }

    /** The airflow is the speed, the rise 2.5 degrees for each kilowatt at the speed 1. */
    private static CoolingPlanner gentle(int load) {
        CoolingPlanner p = Planners.withCurve(0, 5, 10);
        p.addRack(0, 0, load);
        return p;
    }

    private static void justAsWarmAsTheLimit() {
        CoolingPlanner p = gentle(18);
        Check.same("24: 18 + 9", 27.0f, p.temperature(0));
        Check.same("25: just as warm as 27", false, p.isHot(0));
        Check.same("26: just as warm as 27", 0, p.hotSpots());
        Check.same("27: just as warm as 27", 0, p.hotSpotsByPlaces());
        Check.same("40: just as warm as 27", 0.0f, p.hotShare());
        Check.same("42: no mark", "0@0.0:18".length(), p.renderRack(0));
        p.moveRack(0, 0, 1);
        Check.same("25: one place further", true, p.isHot(0));
        Check.same("26: one place further", 1, p.hotSpots());
        Check.same("27: one place further", 1, p.hotSpotsByPlaces());
        Check.same("40: one place further", 1.0f, p.hotShare());
        Check.same("42: a mark", "0@0.1:18!".length(), p.renderRack(0));
    }

    private static void limitsOfHeat() {
        CoolingPlanner p = gentle(20);
        for (int limit = 20; limit <= 60; limit++) {
            p.setLimit(limit);
            Check.same("25: 28 degrees with the limit " + limit, limit < 28, p.isHot(0));
        }
    }

    /** The airflow at speed 4 is four fifths of the curve's middle point. */
    private static void airflowRoundedDown() {
        for (int middle = 0; middle <= 26; middle++) {
            CoolingPlanner p = Planners.withCurve(0, middle, 200);
            p.addRack(2, 0, 20);
            p.setFan(2, 4);
            p.advance(1);
            int carried = Math.min(20, 4 * middle / 5);
            Check.same("37: with the airflow 4/5 of " + middle, carried, p.carriedTotal());
            Check.same("33: with the airflow 4/5 of " + middle, 20 - carried, p.storedHeat(2));
        }
    }

    /** Stored heat and new heat together against the airflow: less, just as much, and more. */
    private static void carriedAway() {
        for (int load = 0; load <= 20; load += 5) {
            for (int airflow = 0; airflow <= 50; airflow++) {
                CoolingPlanner p = Planners.withCurve(0, airflow, 200);
                p.addRack(1, 0, 10);
                p.setFan(1, 0);
                p.advance(1);
                p.setFan(1, 5);
                p.setLoad(0, load);
                p.advance(1);
                int due = 10 + load < airflow ? 10 + load : airflow;
                Check.same("37: 10 and " + load + " by " + airflow, due, p.carriedTotal());
                Check.same("33: 10 and " + load + " by " + airflow, 10 + load - due, p.storedHeat(1));
                Check.same("36: 10 and " + load, 10 + load, p.madeTotal());
                Check.same("41: isConsistent", true, p.isConsistent());
            }
        }
    }

    private static void energies() {
        CoolingPlanner p = Planners.withFansAt(new CoolingPlanner(), 0);
        int energy = 0;
        for (int speed = 0; speed <= 10; speed++) {
            p.setFan(3, speed);
            p.advance(1);
            energy += speed * speed * speed;
            Check.same("38: up to the speed " + speed, energy, p.energyTotal());
        }
        Planners.withFansAt(p, 10).advance(60);
        Check.same("38: all fans for an hour", energy + 60 * 4 * 1000, p.energyTotal());
    }

    private static void minutesOneByOne() {
        for (int minutes = 1; minutes <= 60; minutes++) {
            CoolingPlanner together = Planners.laden();
            CoolingPlanner oneByOne = Planners.laden();
            int hot = together.advance(minutes);
            int hotAtLast = 0;
            for (int i = 0; i < minutes; i++) {
                hotAtLast = oneByOne.advance(1);
            }
            Check.same("10: hot after " + minutes, hotAtLast, hot);
            Check.same("10: state after " + minutes, Planners.state(oneByOne), Planners.state(together));
            Check.same("10: hotSpots after " + minutes, hot, together.hotSpots());
        }
    }

    private static void bothSpeeds(String what, Object due, CoolingPlanner p, int aisle) {
        Check.same("28: " + what, due, Check.answerOf(() -> p.neededSpeed(aisle)));
        Check.same("29: " + what, due, Check.answerOf(() -> p.neededSpeedBySearch(aisle)));
    }

    /** The lowest speed at which no rack is hot when the fan is really set to it, one speed after the other. */
    private static void neededSpeeds() {
        for (int limit = 20; limit <= 60; limit += 4) {
            for (int load = 0; load <= 20; load++) {
                CoolingPlanner p = new CoolingPlanner();
                p.addRack(1, 1, load);
                p.addRack(1, 4, 20 - load);
                p.addRack(2, 3, load);
                p.setLimit(limit);
                Object due = Check.ELEMENT;
                for (int speed = 10; speed >= 0; speed--) {
                    p.setFan(1, speed);
                    due = p.isHot(0) || p.isHot(1) ? due : Integer.valueOf(speed);
                }
                bothSpeeds("load " + load + ", limit " + limit, due, p, 1);
            }
        }
    }

    private static void neededSpeedAtEachBound() {
        // At the speed s the rise is 2.5 * load / s: with the limit 23, just as warm as it at load = 2 * s.
        for (int speed = 1; speed <= 10; speed++) {
            CoolingPlanner p = gentle(2 * speed);
            p.setLimit(23);
            bothSpeeds("just enough at " + speed, speed, p, 0);
            CoolingPlanner q = gentle(2 * speed - 1);
            q.setLimit(23);
            bothSpeeds("one kilowatt less at " + speed, speed, q, 0);
        }
        CoolingPlanner p = gentle(20);
        p.addRack(0, 1, 1);
        p.setLimit(23);
        bothSpeeds("hot at 10, too", Check.ELEMENT, p, 0);
        CoolingPlanner q = gentle(1);
        q.setCurvePoint(0, 1);
        bothSpeeds("0 is enough with airflow at 0", 0, q, 0);
        q.setLimit(20);
        bothSpeeds("not with a lower limit", 1, q, 0);
    }

    private static void neededSpeedIgnoresOtherFans() {
        for (int speed = 0; speed <= 10; speed++) {
            CoolingPlanner p = gentle(12);
            p.addRack(1, 0, 20);
            Planners.withFansAt(p, speed);
            p.setLimit(25);
            bothSpeeds("all fans at " + speed, 5, p, 0);
            Check.same("19: the fan is as it was", speed, p.fanSpeed(0));
        }
    }

    /** With the airflow 10 and the load 11, one more unit is stored each minute, and the rack 0.1 degrees warmer. */
    private static CoolingPlanner warming(int minutes) {
        CoolingPlanner p = new CoolingPlanner();
        p.addRack(0, 0, 11);
        p.setFan(0, 1);
        for (int i = 0; i < minutes; i++) {
            p.advance(1);
        }
        return p;
    }

    private static void hotInTheFirstAndLastMinute() {
        int firstHot = 0;
        while (firstHot < 100 && warming(firstHot).hotSpots() == 0) {
            firstHot++;
        }
        Check.same("24: 20.75 + 6.3 is hot, 20.75 + 6.2 is not", 63, firstHot);
        for (int passed = 0; passed <= firstHot + 3; passed++) {
            CoolingPlanner p = warming(passed);
            int left = Math.max(0, firstHot - passed);
            Object due = left <= 60 ? Integer.valueOf(left) : Check.ELEMENT;
            Check.same("30: after " + passed, due, Check.answerOf(() -> p.minutesUntilHot(0)));
            Check.same("30: no minute has passed", passed, p.minute());
        }
    }

    /** A rack that is hot now and cools down, and one that is just as warm as the limit and stays so. */
    private static void predictionsWhileCooling() {
        CoolingPlanner p = new CoolingPlanner();
        p.addRack(0, 0, 20);
        p.setFan(0, 0);
        p.advance(5);
        p.setFan(0, 10);
        Check.same("30: hot now", 0, p.minutesUntilHot(0));
        Check.same("10: not any more", 0, p.advance(1));
        Check.refused("30: not again", Check.ELEMENT, () -> p.minutesUntilHot(0));
        CoolingPlanner q = gentle(5);
        q.setLimit(20);
        q.setFan(0, 10);
        q.setLoad(0, 8);
        Check.same("24: as warm as the limit", 20.0f, q.temperature(0));
        Check.refused("30: never warmer", Check.ELEMENT, () -> q.minutesUntilHot(0));
        q.setFan(0, 5);
        Check.same("30: warmer at once", 0, q.minutesUntilHot(0));
        q.setLimit(22);
        Check.same("24: as warm as the limit again", 22.0f, q.temperature(0));
        Check.same("30: warmer in a minute", 1, q.minutesUntilHot(0));
    }

    private static void order(String what, CoolingPlanner p, int... due) {
        for (int rank = 0; rank < due.length; rank++) {
            Check.same("31: " + what + ", rank " + rank, due[rank], p.rackByTemperature(rank));
        }
        Check.refused("31: " + what + ", no more", Check.ELEMENT, () -> p.rackByTemperature(due.length));
    }

    private static void ranksOfEqualRacks() {
        CoolingPlanner p = new CoolingPlanner();
        p.addRack(0, 2, 5);
        p.addRack(3, 2, 5);
        order("equal, by index", p, 0, 1);
        p.addRack(0, 0, 3);
        p.addRack(3, 0, 3);
        order("higher place first", p, 0, 1, 2, 3);
        p.setLoad(0, 4);
        p.setLoad(2, 4);
        order("equal temperatures, higher load first", p, 1, 0, 2, 3);
        p.setLoad(3, 5);
        p.setLoad(1, 3);
        order("equal temperatures, lower load last", p, 0, 1, 3, 2);
    }

    private static void aisles(String what, CoolingPlanner p, int... due) {
        for (int rank = 0; rank < 4; rank++) {
            Check.same("32: " + what + ", rank " + rank, due[rank], p.aisleByHeat(rank));
        }
    }

    private static void ranksOfEqualAisles() {
        CoolingPlanner p = new CoolingPlanner();
        aisles("all equal", p, 0, 1, 2, 3);
        p.addRack(3, 0, 1);
        aisles("a kilowatt", p, 3, 0, 1, 2);
        p.addRack(1, 0, 1);
        aisles("the same heat", p, 1, 3, 0, 2);
        p.setFan(3, 0);
        p.advance(1);
        aisles("the same heat, more stored", p, 3, 1, 0, 2);
        p.setLoad(1, 2);
        aisles("more heat, less stored", p, 1, 3, 0, 2);
        p.setLoad(0, 0);
        aisles("no heat, but stored", p, 1, 3, 0, 2);
        p.setLoad(1, 0);
        aisles("stored alone", p, 3, 0, 1, 2);
    }

    /** Of twelve racks, those at the higher places are hot at last. */
    private static void shares() {
        CoolingPlanner p = Planners.crowded();
        Planners.withFansAt(p, 10);
        for (int limit = 24; limit <= 34; limit++) {
            p.setLimit(limit);
            int hot = 0;
            double sum = 0.0;
            for (int rack = 0; rack < 12; rack++) {
                hot += p.temperature(rack) > limit ? 1 : 0;
                sum += (double) p.temperature(rack);
            }
            Check.same("26: limit " + limit, hot, p.hotSpots());
            Check.same("40: limit " + limit, (float) hot / 12.0f, p.hotShare());
            Check.same("39: meanTemperature", sum / 12.0, p.meanTemperature());
        }
    }
}
