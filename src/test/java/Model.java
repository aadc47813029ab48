import java.util.ArrayDeque;
import java.util.ArrayList;
import java.util.Comparator;
import java.util.Deque;
import java.util.List;
import java.util.NoSuchElementException;
import java.util.regex.Matcher;
import java.util.regex.Pattern;

/** The document once more, written for plainness with all of the Java library, to compare the program with. */
final class Model {
    private static final String COMMAND = "(?:rack \\d \\d \\d{1,3}|drop \\d{1,3}|shift \\d{1,3} \\d \\d"
            + "|load \\d{1,3} \\d{1,3}|send \\d{1,3} \\d{1,3} \\d{1,3}|fan \\d \\d{1,3}|curve \\d \\d{1,3}"
            + "|limit \\d{1,3}|wait(?: \\d{1,3})?)";
    private static final Pattern SCRIPT = Pattern.compile(COMMAND + "(?:;" + COMMAND + ")*");

    /** A rack, an aisle's fan and store, and the rest of a state; never changed once it is in a history. */
    private static final class State {
        final List<int[]> racks = new ArrayList<>();
        int[] speeds = {5, 5, 5, 5};
        int[] stored = {0, 0, 0, 0};
        int[] curve = {0, 50, 80};
        int limit = 27;
        int minute;
        int made;
        int carried;
        int energy;

        State copy() {
            State copy = new State();
            for (int[] rack : racks) {
                copy.racks.add(rack.clone());
            }
            copy.speeds = speeds.clone();
            copy.stored = stored.clone();
            copy.curve = curve.clone();
            copy.limit = limit;
            copy.minute = minute;
            copy.made = made;
            copy.carried = carried;
            copy.energy = energy;
            return copy;
        }
    }

    private State now = new State();
    private Deque<State> past = new ArrayDeque<>();
    private State snapshot;
    private String buffer = "";
    private String output = "";
    private Integer errorPosition;
    private Integer failedCommand;
    private boolean inScript;

    private void remember() {
        if (inScript) {
            return;
        }
        past.push(now.copy());
        if (past.size() > 8) {
            past.removeLast();
        }
    }

    private static void index(int index, int size) {
        if (index < 0 || index >= size) {
            throw new IndexOutOfBoundsException();
        }
    }

    private static void argument(boolean good) {
        if (!good) {
            throw new IllegalArgumentException();
        }
    }

    private static void possible(boolean good) {
        if (!good) {
            throw new UnsupportedOperationException();
        }
    }

    private static int element(Integer element) {
        if (element == null) {
            throw new NoSuchElementException();
        }
        return element;
    }

    private int[] rack(int rack) {
        index(rack, now.racks.size());
        return now.racks.get(rack);
    }

    private Integer place(int aisle, int place) {
        for (int i = 0; i < now.racks.size(); i++) {
            if (now.racks.get(i)[0] == aisle && now.racks.get(i)[1] == place) {
                return i;
            }
        }
        return null;
    }

    public int addRack(int aisle, int place, int load) {
        index(aisle, 4);
        argument(place >= 0 && place <= 5 && load >= 0 && load <= 20);
        if (now.racks.size() == 12) {
            throw new IllegalStateException();
        }
        possible(place(aisle, place) == null);
        remember();
        now.racks.add(new int[] {aisle, place, load});
        return now.racks.size() - 1;
    }

    public int removeRack(int rack) {
        rack(rack);
        remember();
        now.racks.remove(rack);
        return now.racks.size();
    }

    public int moveRack(int rack, int aisle, int place) {
        rack(rack);
        index(aisle, 4);
        argument(place >= 0 && place <= 5);
        possible(place(aisle, place) == null);
        remember();
        int before = rack(rack)[0];
        rack(rack)[0] = aisle;
        rack(rack)[1] = place;
        return before;
    }

    public int setLoad(int rack, int load) {
        rack(rack);
        argument(load >= 0 && load <= 20);
        remember();
        int before = rack(rack)[2];
        rack(rack)[2] = load;
        return before;
    }

    public int migrate(int from, int to, int load) {
        rack(from);
        rack(to);
        argument(from != to && load >= 1 && load <= 20);
        possible(rack(from)[2] >= load && rack(to)[2] + load <= 20);
        remember();
        rack(from)[2] -= load;
        rack(to)[2] += load;
        return rack(to)[2];
    }

    public int setFan(int aisle, int speed) {
        index(aisle, 4);
        argument(speed >= 0 && speed <= 10);
        remember();
        int before = now.speeds[aisle];
        now.speeds[aisle] = speed;
        return before;
    }

    public int setCurvePoint(int point, int airflow) {
        index(point, 3);
        argument(airflow >= 0 && airflow <= 200);
        int[] curve = now.curve.clone();
        curve[point] = airflow;
        possible(curve[0] <= curve[1] && curve[1] <= curve[2]);
        remember();
        int before = now.curve[point];
        now.curve = curve;
        return before;
    }

    public int setLimit(int limit) {
        argument(limit >= 20 && limit <= 60);
        remember();
        int before = now.limit;
        now.limit = limit;
        return before;
    }

    public int advance(int minutes) {
        argument(minutes >= 1 && minutes <= 60);
        remember();
        for (int i = 0; i < minutes; i++) {
            oneMinute();
        }
        return hotSpots();
    }

    private void oneMinute() {
        for (int aisle = 0; aisle < 4; aisle++) {
            int units = heat(aisle);
            int away = Math.min(units + now.stored[aisle], (int) Math.floor(airflowAt(now.speeds[aisle])));
            now.stored[aisle] = units + now.stored[aisle] - away;
            now.made += units;
            now.carried += away;
            now.energy += now.speeds[aisle] * now.speeds[aisle] * now.speeds[aisle];
        }
        now.minute++;
    }

    public int rackCount() {
        return now.racks.size();
    }

    public int aisleOf(int rack) {
        return rack(rack)[0];
    }

    public int placeOf(int rack) {
        return rack(rack)[1];
    }

    public int load(int rack) {
        return rack(rack)[2];
    }

    public int rackAt(int aisle, int place) {
        index(aisle, 4);
        argument(place >= 0 && place <= 5);
        return element(place(aisle, place));
    }

    public int heat(int aisle) {
        index(aisle, 4);
        return now.racks.stream().filter(rack -> rack[0] == aisle).mapToInt(rack -> rack[2]).sum();
    }

    public int totalLoad() {
        return now.racks.stream().mapToInt(rack -> rack[2]).sum();
    }

    public int totalLoadByAisles() {
        return totalLoad();
    }

    public int fanSpeed(int aisle) {
        index(aisle, 4);
        return now.speeds[aisle];
    }

    public int curvePoint(int point) {
        index(point, 3);
        return now.curve[point];
    }

    public float airflowAt(int speed) {
        argument(speed >= 0 && speed <= 10);
        int a = now.curve[0];
        int b = now.curve[1];
        int c = now.curve[2];
        if (speed <= 5) {
            return a + (float) (b - a) * speed / 5.0f;
        }
        return b + (float) (c - b) * (speed - 5) / 5.0f;
    }

    public float inletTemperature(int aisle) {
        index(aisle, 4);
        int h = (aisle > 0 ? heat(aisle - 1) : 0) + (aisle < 3 ? heat(aisle + 1) : 0);
        return 18.0f + 0.05f * h + 0.1f * now.stored[aisle];
    }

    public float rise(int aisle) {
        index(aisle, 4);
        if (heat(aisle) == 0) {
            return 0.0f;
        }
        float airflow = airflowAt(now.speeds[aisle]);
        return airflow == 0.0f ? 40.0f : Math.min(40.0f, 2.5f * heat(aisle) / airflow);
    }

    public float temperature(int rack) {
        int aisle = rack(rack)[0];
        return inletTemperature(aisle) + rise(aisle) * (1.0f + rack(rack)[1] / 10.0f);
    }

    public boolean isHot(int rack) {
        return temperature(rack) > now.limit;
    }

    public int hotSpots() {
        int hot = 0;
        for (int rack = 0; rack < rackCount(); rack++) {
            hot += isHot(rack) ? 1 : 0;
        }
        return hot;
    }

    public int hotSpotsByPlaces() {
        return hotSpots();
    }

    public int neededSpeed(int aisle) {
        index(aisle, 4);
        int before = now.speeds[aisle];
        Integer needed = null;
        for (int speed = 10; speed >= 0; speed--) {
            now.speeds[aisle] = speed;
            boolean hot = false;
            for (int rack = 0; rack < rackCount(); rack++) {
                hot |= rack(rack)[0] == aisle && isHot(rack);
            }
            needed = hot ? needed : Integer.valueOf(speed);
        }
        now.speeds[aisle] = before;
        return element(needed);
    }

    public int neededSpeedBySearch(int aisle) {
        return neededSpeed(aisle);
    }

    public int minutesUntilHot(int rack) {
        rack(rack);
        State before = now;
        now = now.copy();
        Integer minutes = null;
        for (int passed = 0; passed <= 60 && minutes == null; passed++) {
            minutes = isHot(rack) ? Integer.valueOf(passed) : null;
            oneMinute();
        }
        now = before;
        return element(minutes);
    }

    public int rackByTemperature(int rank) {
        List<Integer> order = new ArrayList<>();
        for (int rack = 0; rack < rackCount(); rack++) {
            order.add(rack);
        }
        order.sort(Comparator.comparing((Integer rack) -> -temperature(rack)).thenComparing(rack -> -load(rack)));
        return element(rank >= 0 && rank < order.size() ? order.get(rank) : null);
    }

    public int aisleByHeat(int rank) {
        List<Integer> order = new ArrayList<>(List.of(0, 1, 2, 3));
        order.sort(Comparator.comparing((Integer aisle) -> -heat(aisle)).thenComparing(aisle -> -storedHeat(aisle)));
        return element(rank >= 0 && rank < 4 ? order.get(rank) : null);
    }

    public int storedHeat(int aisle) {
        index(aisle, 4);
        return now.stored[aisle];
    }

    public int limit() {
        return now.limit;
    }

    public int minute() {
        return now.minute;
    }

    public int madeTotal() {
        return now.made;
    }

    public int carriedTotal() {
        return now.carried;
    }

    public int energyTotal() {
        return now.energy;
    }

    public double meanTemperature() {
        if (rackCount() == 0) {
            throw new ArithmeticException();
        }
        double sum = 0;
        for (int rack = 0; rack < rackCount(); rack++) {
            sum += temperature(rack);
        }
        return sum / rackCount();
    }

    public float hotShare() {
        if (rackCount() == 0) {
            throw new ArithmeticException();
        }
        return (float) hotSpots() / (float) rackCount();
    }

    public boolean isConsistent() {
        return now.made == now.carried + now.stored[0] + now.stored[1] + now.stored[2] + now.stored[3];
    }

    public int renderRack(int rack) {
        output = rack + "@" + aisleOf(rack) + "." + placeOf(rack) + ":" + load(rack) + (isHot(rack) ? "!" : "");
        return output.length();
    }

    public int renderAisle(int aisle) {
        index(aisle, 4);
        List<String> loads = new ArrayList<>();
        for (int place = 0; place < 6; place++) {
            loads.add(place(aisle, place) == null ? "-" : String.valueOf(load(place(aisle, place))));
        }
        output = "f" + fanSpeed(aisle) + " " + String.join(",", loads);
        return output.length();
    }

    public char outputAt(int index) {
        index(index, output.length());
        return output.charAt(index);
    }

    public int type(char character) {
        argument(character >= 32 && character <= 126);
        if (buffer.length() == 60) {
            throw new IllegalStateException();
        }
        buffer += character;
        return buffer.length();
    }

    public int runScript() {
        String script = buffer;
        buffer = "";
        if (!SCRIPT.matcher(script).matches()) {
            errorPosition = firstThatCannotContinue(script);
            throw new IllegalArgumentException();
        }
        State before = now.copy();
        String[] commands = script.split(";");
        for (int i = 0; i < commands.length; i++) {
            inScript = true;
            try {
                perform(commands[i].split(" "));
            } catch (RuntimeException e) {
                now = before;
                failedCommand = i;
                throw new IllegalStateException();
            } finally {
                inScript = false;
            }
        }
        State after = now;
        now = before;
        remember();
        now = after;
        return commands.length;
    }

    private static int firstThatCannotContinue(String script) {
        for (int i = 0; i < script.length(); i++) {
            Matcher matcher = SCRIPT.matcher(script.substring(0, i + 1));
            if (!matcher.matches() && !matcher.hitEnd()) {
                return i;
            }
        }
        return script.length();
    }

    private void perform(String[] words) {
        int[] n = new int[3];
        for (int i = 1; i < words.length; i++) {
            n[i - 1] = Integer.parseInt(words[i]);
        }
        switch (words[0]) {
            case "rack" -> addRack(n[0], n[1], n[2]);
            case "drop" -> removeRack(n[0]);
            case "shift" -> moveRack(n[0], n[1], n[2]);
            case "load" -> setLoad(n[0], n[1]);
            case "send" -> migrate(n[0], n[1], n[2]);
            case "fan" -> setFan(n[0], n[1]);
            case "curve" -> setCurvePoint(n[0], n[1]);
            case "limit" -> setLimit(n[0]);
            default -> advance(words.length == 1 ? 1 : n[0]);
        }
    }

    public int errorPosition() {
        return element(errorPosition);
    }

    public int failedCommand() {
        return element(failedCommand);
    }

    public int undo() {
        if (past.isEmpty()) {
            throw new NoSuchElementException();
        }
        now = past.pop();
        return past.size();
    }

    public int save() {
        snapshot = now.copy();
        return rackCount();
    }

    public int restore() {
        if (snapshot == null) {
            throw new IllegalStateException();
        }
        now = snapshot.copy();
        past.clear();
        return rackCount();
    }
}
