import java.util.NoSuchElementException;

/** A planner for the cooling of a data centre. */
public final class CoolingPlanner {
    private static final int AISLES = 4;
    private static final int PLACES = 6;
    private static final int MAX_RACKS = 12;
    private static final int MAX_LOAD = 20;
    private static final int MAX_SPEED = 10;
    private static final int CURVE_POINTS = 3;
    private static final int SPEEDS_BETWEEN_POINTS = 5;
    private static final int MAX_AIRFLOW = 200;
    private static final int MIN_LIMIT = 20;
    private static final int MAX_LIMIT = 60;
    private static final int FIRST_LIMIT = 27;
    private static final int MAX_MINUTES = 60;
    private static final int MAX_UNDOS = 8;
    private static final int MAX_SCRIPT = 60;

    /** What a search answers that finds nothing. */
    private static final int NONE = -1;

    // A change that is refused answers one of these; the result of a change is never negative.
    private static final int NO_SUCH_INDEX = -1;
    private static final int BAD_ARGUMENT = -2;
    private static final int BAD_STATE = -3;
    private static final int UNSUPPORTED = -4;

    private static final Command[] COMMANDS = Command.values();

    private final Timeline timeline = new Timeline();
    private final Centre snapshot = new Centre();
    private boolean hasSnapshot;
    private final Script script = new Script();
    private int errorAt = NONE;
    private int failedAt = NONE;
    private final StringBuilder output = new StringBuilder();

    public CoolingPlanner() {
    }

    public int addRack(int aisle, int place, int load) throws IndexOutOfBoundsException, IllegalArgumentException,
            IllegalStateException, UnsupportedOperationException {
        return keepUnlessRefused(timeline.draft().add(aisle, place, load));
    }

    public int removeRack(int rack) throws IndexOutOfBoundsException {
        return keepUnlessRefused(timeline.draft().remove(rack));
    }

    public int moveRack(int rack, int aisle, int place)
            throws IndexOutOfBoundsException, IllegalArgumentException, UnsupportedOperationException {
        return keepUnlessRefused(timeline.draft().move(rack, aisle, place));
    }

    public int setLoad(int rack, int load) throws IndexOutOfBoundsException, IllegalArgumentException {
        return keepUnlessRefused(timeline.draft().changeLoad(rack, load));
    }

    public int migrate(int from, int to, int load)
            throws IndexOutOfBoundsException, IllegalArgumentException, UnsupportedOperationException {
        return keepUnlessRefused(timeline.draft().send(from, to, load));
    }

    public int setFan(int aisle, int speed) throws IndexOutOfBoundsException, IllegalArgumentException {
        return keepUnlessRefused(timeline.draft().fans.changeSpeed(aisle, speed));
    }

    public int setCurvePoint(int point, int airflow)
            throws IndexOutOfBoundsException, IllegalArgumentException, UnsupportedOperationException {
        return keepUnlessRefused(timeline.draft().fans.changePoint(point, airflow));
    }

    public int setLimit(int limit) throws IllegalArgumentException {
        return keepUnlessRefused(timeline.draft().changeLimit(limit));
    }

    public int advance(int minutes) throws IllegalArgumentException {
        keepUnlessRefused(timeline.draft().pass(minutes));
        return now().countHotRacks();
    }

    public int rackCount() {
        return now().racks.count;
    }

    public int aisleOf(int rack) throws IndexOutOfBoundsException {
        return existingRack(rack).aisle;
    }

    public int placeOf(int rack) throws IndexOutOfBoundsException {
        return existingRack(rack).place;
    }

    public int load(int rack) throws IndexOutOfBoundsException {
        return existingRack(rack).load;
    }

    public int rackAt(int aisle, int place)
            throws IndexOutOfBoundsException, IllegalArgumentException, NoSuchElementException {
        requireAisle(aisle);
        if (!isPlace(place)) {
            throw new IllegalArgumentException("There is no such place.");
        }
        return found(now().racks.find(aisle, place));
    }

    public int heat(int aisle) throws IndexOutOfBoundsException {
        requireAisle(aisle);
        return now().racks.heatIn(aisle);
    }

    public int totalLoad() {
        return now().racks.sumByRacks();
    }

    public int totalLoadByAisles() {
        return now().racks.sumByAisles();
    }

    public int fanSpeed(int aisle) throws IndexOutOfBoundsException {
        requireAisle(aisle);
        return now().fans.speedIn(aisle);
    }

    public int curvePoint(int point) throws IndexOutOfBoundsException {
        if (!isCurvePoint(point)) {
            throw new IndexOutOfBoundsException("There is no such point.");
        }
        return now().fans.pointAt(point);
    }

    public float airflowAt(int speed) throws IllegalArgumentException {
        if (!isSpeed(speed)) {
            throw new IllegalArgumentException("There is no such speed.");
        }
        return now().fans.airflowFor(speed);
    }

    public float inletTemperature(int aisle) throws IndexOutOfBoundsException {
        requireAisle(aisle);
        return now().inletOf(aisle);
    }

    public float rise(int aisle) throws IndexOutOfBoundsException {
        requireAisle(aisle);
        return now().riseAt(aisle, now().fans.speedIn(aisle));
    }

    public float temperature(int rack) throws IndexOutOfBoundsException {
        return now().temperatureOf(existingRack(rack));
    }

    public boolean isHot(int rack) throws IndexOutOfBoundsException {
        return now().isRackHot(existingRack(rack));
    }

    public int hotSpots() {
        return now().countHotRacks();
    }

    public int hotSpotsByPlaces() {
        return now().countHotPlaces();
    }

    public int neededSpeed(int aisle) throws IndexOutOfBoundsException, NoSuchElementException {
        requireAisle(aisle);
        return found(now().lowestSpeedByTrying(aisle));
    }

    public int neededSpeedBySearch(int aisle) throws IndexOutOfBoundsException, NoSuchElementException {
        requireAisle(aisle);
        return found(now().lowestSpeedByHalving(aisle));
    }

    public int minutesUntilHot(int rack) throws IndexOutOfBoundsException, NoSuchElementException {
        return found(now().minutesBeforeHot(existingRack(rack)));
    }

    public int rackByTemperature(int rank) throws NoSuchElementException {
        return found(now().rackAtRank(rank));
    }

    public int aisleByHeat(int rank) throws NoSuchElementException {
        return found(now().aisleAtRank(rank));
    }

    public int storedHeat(int aisle) throws IndexOutOfBoundsException {
        requireAisle(aisle);
        return now().storedIn(aisle);
    }

    public int limit() {
        return now().limit;
    }

    public int minute() {
        return now().minute;
    }

    public int madeTotal() {
        return now().made;
    }

    public int carriedTotal() {
        return now().carried;
    }

    public int energyTotal() {
        return now().energy;
    }

    public double meanTemperature() throws ArithmeticException {
        requireRacks();
        return now().sumOfTemperatures() / (double) now().racks.count;
    }

    public float hotShare() throws ArithmeticException {
        requireRacks();
        return (float) now().countHotRacks() / (float) now().racks.count;
    }

    public boolean isConsistent() {
        Centre centre = now();
        return centre.racks.sumByRacks() == centre.racks.sumByAisles()
                && centre.countHotRacks() == centre.countHotPlaces()
                && centre.doNeededSpeedsAgree()
                && centre.made == centre.carried + centre.sumOfStored();
    }

    public int renderRack(int rack) throws IndexOutOfBoundsException {
        Rack described = existingRack(rack);
        output.setLength(0);
        output.append(rack).append('@').append(described.aisle).append('.').append(described.place);
        output.append(':').append(described.load);
        if (now().isRackHot(described)) {
            output.append('!');
        }
        return output.length();
    }

    public int renderAisle(int aisle) throws IndexOutOfBoundsException {
        requireAisle(aisle);
        output.setLength(0);
        output.append('f').append(now().fans.speedIn(aisle));
        for (int place = 0; place < PLACES; place++) {
            output.append(place == 0 ? ' ' : ',');
            Rack rack = now().racks.get(now().racks.find(aisle, place));
            if (rack == null) {
                output.append('-');
            } else {
                output.append(rack.load);
            }
        }
        return output.length();
    }

    public char outputAt(int index) throws IndexOutOfBoundsException {
        if (index < 0 || index >= output.length()) {
            throw new IndexOutOfBoundsException("There is no such character.");
        }
        return output.charAt(index);
    }

    public int type(char character) throws IllegalArgumentException, IllegalStateException {
        if (character < 32 || character > 126) {
            throw new IllegalArgumentException("The character cannot be typed.");
        }
        if (script.isFull()) {
            throw new IllegalStateException("The script buffer is full.");
        }
        return script.append(character);
    }

    public int runScript() throws IllegalArgumentException, IllegalStateException {
        int commands = script.countCommands();
        if (commands == NONE) {
            errorAt = script.reached;
            script.clear();
            throw new IllegalArgumentException("The script does not have the required form.");
        }
        int done = script.performOn(timeline.draft(), commands);
        script.clear();
        if (done < commands) {
            failedAt = done;
            throw new IllegalStateException("A command of the script failed.");
        }
        timeline.keepDraft();
        return commands;
    }

    public int errorPosition() throws NoSuchElementException {
        return found(errorAt);
    }

    public int failedCommand() throws NoSuchElementException {
        return found(failedAt);
    }

    public int undo() throws NoSuchElementException {
        return found(timeline.goBack());
    }

    public int save() {
        snapshot.copyFrom(now());
        hasSnapshot = true;
        return snapshot.racks.count;
    }

    public int restore() throws IllegalStateException {
        if (!hasSnapshot) {
            throw new IllegalStateException("There is no snapshot.");
        }
        timeline.startAnewFrom(snapshot);
        return snapshot.racks.count;
    }

    private Centre now() {
        return timeline.present();
    }

    private int keepUnlessRefused(int answer) {
        throwIfRefused(answer);
        timeline.keepDraft();
        return answer;
    }

    private static void throwIfRefused(int answer) {
        switch (answer) {
            case NO_SUCH_INDEX:
                throw new IndexOutOfBoundsException("There is no such rack, aisle or point.");
            case BAD_ARGUMENT:
                throw new IllegalArgumentException("An argument is not in its bounds.");
            case BAD_STATE:
                throw new IllegalStateException("There are as many racks as there can be.");
            case UNSUPPORTED:
                throw new UnsupportedOperationException("The racks or the fan curve do not allow this.");
            default:
                break;
        }
    }

    private static int found(int answer) {
        if (answer == NONE) {
            throw new NoSuchElementException("There is nothing of that kind.");
        }
        return answer;
    }

    private static void requireAisle(int aisle) {
        if (!isAisle(aisle)) {
            throw new IndexOutOfBoundsException("There is no such aisle.");
        }
    }

    private Rack existingRack(int rack) {
        Rack existing = now().racks.get(rack);
        if (existing == null) {
            throw new IndexOutOfBoundsException("There is no such rack.");
        }
        return existing;
    }

    private void requireRacks() {
        if (now().racks.count == 0) {
            throw new ArithmeticException("There are no racks.");
        }
    }

    private static boolean isBetween(int value, int low, int high) {
        return value >= low && value <= high;
    }

    private static boolean isAisle(int aisle) {
        return isBetween(aisle, 0, AISLES - 1);
    }

    private static boolean isPlace(int place) {
        return isBetween(place, 0, PLACES - 1);
    }

    private static boolean isLoad(int load) {
        return isBetween(load, 0, MAX_LOAD);
    }

    private static boolean isSpeed(int speed) {
        return isBetween(speed, 0, MAX_SPEED);
    }

    private static boolean isCurvePoint(int point) {
        return isBetween(point, 0, CURVE_POINTS - 1);
    }

    // All rows of numbers are read and written through the next three, so that no index is ever used untested.

    private static int at(int[] row, int index) {
        return index >= 0 && index < row.length ? row[index] : 0;
    }

    private static void put(int[] row, int index, int value) {
        if (index >= 0 && index < row.length) {
            row[index] = value;
        }
    }

    private static void copy(int[] from, int[] to) {
        System.arraycopy(from, 0, to, 0, Math.min(from.length, to.length));
    }

    /** A rack at its place. */
    private static final class Rack {
        private int aisle;
        private int place;
        private int load;

        void copyFrom(Rack other) {
            aisle = other.aisle;
            place = other.place;
            load = other.load;
        }
    }

    /** The racks in the order in which they were added. */
    private static final class Racks {
        private final Rack[] row = new Rack[MAX_RACKS];
        private int count;

        Racks() {
            for (int i = 0; i < row.length; i++) {
                row[i] = new Rack();
            }
        }

        /** Returns the rack, or null if there is no such rack. */
        Rack get(int index) {
            return index >= 0 && index < count && index < row.length ? row[index] : null;
        }

        int find(int aisle, int place) {
            for (int i = 0; i < count && i < row.length; i++) {
                if (row[i].aisle == aisle && row[i].place == place) {
                    return i;
                }
            }
            return NONE;
        }

        int heatIn(int aisle) {
            int sum = 0;
            for (int i = 0; i < count && i < row.length; i++) {
                sum += row[i].aisle == aisle ? row[i].load : 0;
            }
            return sum;
        }

        int sumByRacks() {
            int sum = 0;
            for (int i = 0; i < count && i < row.length; i++) {
                sum += row[i].load;
            }
            return sum;
        }

        int sumByAisles() {
            int sum = 0;
            for (int aisle = 0; aisle < AISLES; aisle++) {
                sum += heatIn(aisle);
            }
            return sum;
        }

        boolean isFull() {
            return count >= row.length;
        }

        /** Adds a rack, for which there must be room, and returns its index. */
        int append(int aisle, int place, int load) {
            int index = count;
            if (index >= 0 && index < row.length) {
                row[index].aisle = aisle;
                row[index].place = place;
                row[index].load = load;
                count++;
            }
            return index;
        }

        /** Removes a rack that there must be. */
        void delete(int index) {
            for (int i = Math.max(index, 0); i + 1 < count && i + 1 < row.length; i++) {
                row[i].copyFrom(row[i + 1]);
            }
            count--;
        }

        void copyFrom(Racks other) {
            count = other.count;
            for (int i = 0; i < row.length && i < other.row.length; i++) {
                row[i].copyFrom(other.row[i]);
            }
        }
    }

    /** The fans of all aisles and the curve that they share. */
    private static final class Fans {
        private final int[] speeds = {5, 5, 5, 5};
        private final int[] curve = {0, 50, 80};

        int speedIn(int aisle) {
            return at(speeds, aisle);
        }

        int pointAt(int point) {
            return at(curve, point);
        }

        float airflowFor(int speed) {
            int point = speed <= SPEEDS_BETWEEN_POINTS ? 0 : 1;
            int from = at(curve, point);
            int to = at(curve, point + 1);
            int steps = speed - point * SPEEDS_BETWEEN_POINTS;
            return (float) from + (float) (to - from) * (float) steps / 5.0f;
        }

        int changeSpeed(int aisle, int speed) {
            if (!isAisle(aisle)) {
                return NO_SUCH_INDEX;
            }
            if (!isSpeed(speed)) {
                return BAD_ARGUMENT;
            }
            int previous = at(speeds, aisle);
            put(speeds, aisle, speed);
            return previous;
        }

        int changePoint(int point, int airflow) {
            if (!isCurvePoint(point)) {
                return NO_SUCH_INDEX;
            }
            if (!isBetween(airflow, 0, MAX_AIRFLOW)) {
                return BAD_ARGUMENT;
            }
            int lowest = point == 0 ? 0 : at(curve, point - 1);
            int highest = point == CURVE_POINTS - 1 ? MAX_AIRFLOW : at(curve, point + 1);
            if (!isBetween(airflow, lowest, highest)) {
                return UNSUPPORTED;
            }
            int previous = at(curve, point);
            put(curve, point, airflow);
            return previous;
        }

        void copyFrom(Fans other) {
            copy(other.speeds, speeds);
            copy(other.curve, curve);
        }
    }

    /** A state of the data centre: all that undo and the snapshot cover. */
    private static final class Centre {
        private final Racks racks = new Racks();
        private final Fans fans = new Fans();
        private final int[] stored = new int[AISLES];
        private int limit = FIRST_LIMIT;
        private int minute;
        private int made;
        private int carried;
        private int energy;
        /** Room for the ranking, which needs each temperature many times; no part of the state. */
        private final float[] measured = new float[MAX_RACKS];

        void copyFrom(Centre other) {
            racks.copyFrom(other.racks);
            fans.copyFrom(other.fans);
            copy(other.stored, stored);
            limit = other.limit;
            minute = other.minute;
            made = other.made;
            carried = other.carried;
            energy = other.energy;
        }

        int add(int aisle, int place, int load) {
            if (!isAisle(aisle)) {
                return NO_SUCH_INDEX;
            }
            if (!isPlace(place) || !isLoad(load)) {
                return BAD_ARGUMENT;
            }
            if (racks.isFull()) {
                return BAD_STATE;
            }
            if (racks.find(aisle, place) != NONE) {
                return UNSUPPORTED;
            }
            return racks.append(aisle, place, load);
        }

        int remove(int index) {
            if (racks.get(index) == null) {
                return NO_SUCH_INDEX;
            }
            racks.delete(index);
            return racks.count;
        }

        int move(int index, int aisle, int place) {
            Rack rack = racks.get(index);
            if (rack == null || !isAisle(aisle)) {
                return NO_SUCH_INDEX;
            }
            if (!isPlace(place)) {
                return BAD_ARGUMENT;
            }
            if (racks.find(aisle, place) != NONE) {
                return UNSUPPORTED;
            }
            int previous = rack.aisle;
            rack.aisle = aisle;
            rack.place = place;
            return previous;
        }

        int changeLoad(int index, int load) {
            Rack rack = racks.get(index);
            if (rack == null) {
                return NO_SUCH_INDEX;
            }
            if (!isLoad(load)) {
                return BAD_ARGUMENT;
            }
            int previous = rack.load;
            rack.load = load;
            return previous;
        }

        int send(int from, int to, int load) {
            Rack giver = racks.get(from);
            Rack taker = racks.get(to);
            if (giver == null || taker == null) {
                return NO_SUCH_INDEX;
            }
            if (from == to || !isBetween(load, 1, MAX_LOAD)) {
                return BAD_ARGUMENT;
            }
            if (giver.load < load || taker.load + load > MAX_LOAD) {
                return UNSUPPORTED;
            }
            giver.load -= load;
            taker.load += load;
            return taker.load;
        }

        int changeLimit(int newLimit) {
            if (!isBetween(newLimit, MIN_LIMIT, MAX_LIMIT)) {
                return BAD_ARGUMENT;
            }
            int previous = limit;
            limit = newLimit;
            return previous;
        }

        /** Lets minutes pass and returns their number. */
        int pass(int minutes) {
            if (!isBetween(minutes, 1, MAX_MINUTES)) {
                return BAD_ARGUMENT;
            }
            for (int aisle = 0; aisle < AISLES; aisle++) {
                passIn(aisle, minutes);
            }
            minute += minutes;
            return minutes;
        }

        // The aisles can pass their minutes one after the other: no aisle's stored heat depends on another's.
        private void passIn(int aisle, int minutes) {
            int heat = racks.heatIn(aisle);
            int speed = fans.speedIn(aisle);
            int capacity = (int) fans.airflowFor(speed);
            int units = at(stored, aisle);
            for (int i = 0; i < minutes; i++) {
                int left = leftOver(units + heat, capacity);
                made += heat;
                carried += units + heat - left;
                energy += speed * speed * speed;
                units = left;
            }
            put(stored, aisle, units);
        }

        private static int leftOver(int units, int capacity) {
            return units - Math.min(units, capacity);
        }

        int storedIn(int aisle) {
            return at(stored, aisle);
        }

        float inletOf(int aisle) {
            return inletFor(heatAround(aisle), at(stored, aisle));
        }

        private int heatAround(int aisle) {
            return racks.heatIn(aisle - 1) + racks.heatIn(aisle + 1);
        }

        private static float inletFor(int heatAround, int units) {
            return 18.0f + 0.05f * (float) heatAround + 0.1f * (float) units;
        }

        float riseAt(int aisle, int speed) {
            int heat = racks.heatIn(aisle);
            if (heat == 0) {
                return 0.0f;
            }
            float airflow = fans.airflowFor(speed);
            if (airflow == 0.0f) {
                return 40.0f;
            }
            float rise = 2.5f * (float) heat / airflow;
            return rise < 40.0f ? rise : 40.0f;
        }

        private static float temperatureFor(float inlet, float rise, int place) {
            return inlet + rise * (1.0f + (float) place / 10.0f);
        }

        float temperatureOf(Rack rack) {
            float rise = riseAt(rack.aisle, fans.speedIn(rack.aisle));
            return temperatureFor(inletOf(rack.aisle), rise, rack.place);
        }

        private boolean isOverLimit(float temperature) {
            return temperature > (float) limit;
        }

        boolean isRackHot(Rack rack) {
            return isOverLimit(temperatureOf(rack));
        }

        int countHotRacks() {
            int hot = 0;
            for (int i = 0; i < racks.count; i++) {
                Rack rack = racks.get(i);
                if (rack != null && isRackHot(rack)) {
                    hot++;
                }
            }
            return hot;
        }

        int countHotPlaces() {
            int hot = 0;
            for (int aisle = 0; aisle < AISLES; aisle++) {
                for (int place = 0; place < PLACES; place++) {
                    Rack rack = racks.get(racks.find(aisle, place));
                    if (rack != null && isRackHot(rack)) {
                        hot++;
                    }
                }
            }
            return hot;
        }

        double sumOfTemperatures() {
            double sum = 0.0;
            for (int i = 0; i < racks.count; i++) {
                Rack rack = racks.get(i);
                if (rack != null) {
                    sum += (double) temperatureOf(rack);
                }
            }
            return sum;
        }

        int lowestSpeedByTrying(int aisle) {
            for (int speed = 0; speed <= MAX_SPEED; speed++) {
                if (!wouldBeHot(aisle, speed)) {
                    return speed;
                }
            }
            return NONE;
        }

        // Halving finds the same speed because a faster fan never makes a rack hotter: the curve never decreases.
        int lowestSpeedByHalving(int aisle) {
            int low = 0;
            int high = MAX_SPEED + 1;
            for (int step = 0; step <= MAX_SPEED && low < high; step++) {
                int middle = (low + high) / 2;
                if (wouldBeHot(aisle, middle)) {
                    low = middle + 1;
                } else {
                    high = middle;
                }
            }
            return low <= MAX_SPEED ? low : NONE;
        }

        private boolean wouldBeHot(int aisle, int speed) {
            float inlet = inletOf(aisle);
            float rise = riseAt(aisle, speed);
            for (int place = 0; place < PLACES; place++) {
                if (racks.find(aisle, place) != NONE && isOverLimit(temperatureFor(inlet, rise, place))) {
                    return true;
                }
            }
            return false;
        }

        int minutesBeforeHot(Rack rack) {
            int heat = racks.heatIn(rack.aisle);
            int speed = fans.speedIn(rack.aisle);
            int capacity = (int) fans.airflowFor(speed);
            int around = heatAround(rack.aisle);
            float rise = riseAt(rack.aisle, speed);
            int units = at(stored, rack.aisle);
            for (int passed = 0; passed <= MAX_MINUTES; passed++) {
                if (isOverLimit(temperatureFor(inletFor(around, units), rise, rack.place))) {
                    return passed;
                }
                units = leftOver(units + heat, capacity);
            }
            return NONE;
        }

        int rackAtRank(int rank) {
            measureRacks();
            for (int i = 0; i < racks.count; i++) {
                if (countRacksBefore(i) == rank) {
                    return i;
                }
            }
            return NONE;
        }

        private void measureRacks() {
            for (int i = 0; i < measured.length; i++) {
                Rack rack = racks.get(i);
                measured[i] = rack == null ? 0.0f : temperatureOf(rack);
            }
        }

        private int countRacksBefore(int index) {
            int before = 0;
            for (int i = 0; i < racks.count; i++) {
                if (comesRackBefore(i, index)) {
                    before++;
                }
            }
            return before;
        }

        private boolean comesRackBefore(int first, int second) {
            float firstTemperature = measuredAt(first);
            float secondTemperature = measuredAt(second);
            if (firstTemperature != secondTemperature) {
                return firstTemperature > secondTemperature;
            }
            int firstLoad = loadOf(first);
            int secondLoad = loadOf(second);
            if (firstLoad != secondLoad) {
                return firstLoad > secondLoad;
            }
            return first < second;
        }

        private float measuredAt(int index) {
            return index >= 0 && index < measured.length ? measured[index] : 0.0f;
        }

        private int loadOf(int index) {
            Rack rack = racks.get(index);
            return rack == null ? 0 : rack.load;
        }

        int aisleAtRank(int rank) {
            for (int aisle = 0; aisle < AISLES; aisle++) {
                if (countAislesBefore(aisle) == rank) {
                    return aisle;
                }
            }
            return NONE;
        }

        private int countAislesBefore(int aisle) {
            int before = 0;
            for (int other = 0; other < AISLES; other++) {
                if (comesAisleBefore(other, aisle)) {
                    before++;
                }
            }
            return before;
        }

        private boolean comesAisleBefore(int first, int second) {
            int firstHeat = racks.heatIn(first);
            int secondHeat = racks.heatIn(second);
            if (firstHeat != secondHeat) {
                return firstHeat > secondHeat;
            }
            int firstUnits = at(stored, first);
            int secondUnits = at(stored, second);
            if (firstUnits != secondUnits) {
                return firstUnits > secondUnits;
            }
            return first < second;
        }

        boolean doNeededSpeedsAgree() {
            for (int aisle = 0; aisle < AISLES; aisle++) {
                if (lowestSpeedByTrying(aisle) != lowestSpeedByHalving(aisle)) {
                    return false;
                }
            }
            return true;
        }

        int sumOfStored() {
            int sum = 0;
            for (int units : stored) {
                sum += units;
            }
            return sum;
        }
    }

    /** The present state, the states before the latest changes, and room for a draft of the next one, in a ring. */
    private static final class Timeline {
        private static final int STATES = MAX_UNDOS + 2;

        private final Centre[] ring = new Centre[STATES];
        private int newest;
        private int undoable;

        Timeline() {
            for (int i = 0; i < ring.length; i++) {
                ring[i] = new Centre();
            }
        }

        Centre present() {
            return stateAt(newest);
        }

        /** Returns a copy of the present state, to make a change in; it is lost unless it is kept. */
        Centre draft() {
            Centre draft = stateAt(newest + 1);
            draft.copyFrom(present());
            return draft;
        }

        void keepDraft() {
            newest = Math.floorMod(newest + 1, STATES);
            undoable = Math.min(undoable + 1, MAX_UNDOS);
        }

        /** Undoes a change and returns how many more can be undone, or answers NONE if there was none to undo. */
        int goBack() {
            if (undoable == 0) {
                return NONE;
            }
            newest = Math.floorMod(newest - 1, STATES);
            undoable--;
            return undoable;
        }

        void startAnewFrom(Centre state) {
            present().copyFrom(state);
            undoable = 0;
        }

        private Centre stateAt(int position) {
            return ring[Math.floorMod(position, STATES)];
        }
    }

    /** The commands of a script; in their forms # stands for a digit and * for a number. */
    private enum Command {
        RACK("rack # # *"),
        DROP("drop *"),
        SHIFT("shift * # #"),
        LOAD("load * *"),
        SEND("send * * *"),
        FAN("fan # *"),
        CURVE("curve # *"),
        LIMIT("limit *"),
        WAIT("wait *"),
        // Comes behind the longer form, which must be tried first.
        WAIT_A_MINUTE("wait");

        private final String form;

        Command(String form) {
            this.form = form;
        }
    }

    /** The script buffer, and a reader of the commands in it. */
    private static final class Script {
        private static final int MAX_NUMBERS = 3;

        private final StringBuilder text = new StringBuilder();
        private int position;
        /** The first character that no form tried so far could take: the error position if the script has none. */
        private int reached;
        private Command command = Command.WAIT_A_MINUTE;
        private final int[] numbers = new int[MAX_NUMBERS];
        private int numberCount;

        boolean isFull() {
            return text.length() >= MAX_SCRIPT;
        }

        int append(char character) {
            text.append(character);
            return text.length();
        }

        void clear() {
            text.setLength(0);
        }

        /** Returns the number of commands, or NONE if the text does not have the form of a script. */
        int countCommands() {
            position = 0;
            reached = 0;
            for (int count = 1; count <= MAX_SCRIPT; count++) {
                if (!readCommand()) {
                    return NONE;
                }
                if (position >= text.length()) {
                    return count;
                }
                if (!readCharacter(';')) {
                    return NONE;
                }
            }
            return NONE;
        }

        /** Performs the commands up to the first one that is refused, and returns how many took effect. */
        int performOn(Centre centre, int commands) {
            position = 0;
            for (int done = 0; done < commands; done++) {
                if (!readCommand() || perform(centre) < 0) {
                    return done;
                }
                readCharacter(';');
            }
            return commands;
        }

        private int perform(Centre centre) {
            int first = at(numbers, 0);
            int second = at(numbers, 1);
            int third = at(numbers, 2);
            switch (command) {
                case RACK:
                    return centre.add(first, second, third);
                case DROP:
                    return centre.remove(first);
                case SHIFT:
                    return centre.move(first, second, third);
                case LOAD:
                    return centre.changeLoad(first, second);
                case SEND:
                    return centre.send(first, second, third);
                case FAN:
                    return centre.fans.changeSpeed(first, second);
                case CURVE:
                    return centre.fans.changePoint(first, second);
                case LIMIT:
                    return centre.changeLimit(first);
                case WAIT:
                    return centre.pass(first);
                default:
                    return centre.pass(1);
            }
        }

        private boolean readCommand() {
            int start = position;
            for (Command candidate : COMMANDS) {
                position = start;
                if (readForm(candidate.form)) {
                    command = candidate;
                    return true;
                }
            }
            return false;
        }

        private boolean readForm(String form) {
            numberCount = 0;
            for (int i = 0; i < form.length(); i++) {
                if (!readSign(form.charAt(i))) {
                    return false;
                }
            }
            return true;
        }

        private boolean readSign(char sign) {
            if (sign == '#') {
                return readNumber(1);
            }
            return sign == '*' ? readNumber(3) : readCharacter(sign);
        }

        private boolean readNumber(int mostDigits) {
            int value = 0;
            int digits = 0;
            while (digits < mostDigits && isDigit(next())) {
                value = 10 * value + (next() - '0');
                digits++;
                goOn();
            }
            put(numbers, numberCount, value);
            numberCount++;
            return digits > 0;
        }

        private boolean readCharacter(char wanted) {
            boolean fits = next() == wanted;
            if (fits) {
                goOn();
            }
            return fits;
        }

        /** Returns the next character, or one that no script holds at the end of the text. */
        private char next() {
            return position >= 0 && position < text.length() ? text.charAt(position) : (char) 0;
        }

        private void goOn() {
            position++;
            reached = Math.max(reached, position);
        }

        private static boolean isDigit(char character) {
            return character >= '0' && character <= '9';
        }
    }
}
