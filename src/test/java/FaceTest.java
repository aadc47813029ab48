import java.lang.reflect.Constructor;
import java.lang.reflect.Field;
import java.lang.reflect.Method;
import java.lang.reflect.Modifier;
import java.util.ArrayList;
import java.util.List;
import java.util.Set;
import java.util.TreeSet;

/** The public face: just the members that the document prints, with their exceptions. */
public final class FaceTest {
    private static final String[] FACE = {
        "int addRack(int, int, int) IndexOutOfBoundsException IllegalArgumentException IllegalStateException"
            + " UnsupportedOperationException",
        "int removeRack(int) IndexOutOfBoundsException",
        "int moveRack(int, int, int) IndexOutOfBoundsException IllegalArgumentException UnsupportedOperationException",
        "int setLoad(int, int) IndexOutOfBoundsException IllegalArgumentException",
        "int migrate(int, int, int) IndexOutOfBoundsException IllegalArgumentException UnsupportedOperationException",
        "int setFan(int, int) IndexOutOfBoundsException IllegalArgumentException",
        "int setCurvePoint(int, int) IndexOutOfBoundsException IllegalArgumentException UnsupportedOperationException",
        "int setLimit(int) IllegalArgumentException",
        "int advance(int) IllegalArgumentException",
        "int rackCount()",
        "int aisleOf(int) IndexOutOfBoundsException",
        "int placeOf(int) IndexOutOfBoundsException",
        "int load(int) IndexOutOfBoundsException",
        "int rackAt(int, int) IndexOutOfBoundsException IllegalArgumentException NoSuchElementException",
        "int heat(int) IndexOutOfBoundsException",
        "int totalLoad()",
        "int totalLoadByAisles()",
        "int fanSpeed(int) IndexOutOfBoundsException",
        "int curvePoint(int) IndexOutOfBoundsException",
        "float airflowAt(int) IllegalArgumentException",
        "float inletTemperature(int) IndexOutOfBoundsException",
        "float rise(int) IndexOutOfBoundsException",
        "float temperature(int) IndexOutOfBoundsException",
        "boolean isHot(int) IndexOutOfBoundsException",
        "int hotSpots()",
        "int hotSpotsByPlaces()",
        "int neededSpeed(int) IndexOutOfBoundsException NoSuchElementException",
        "int neededSpeedBySearch(int) IndexOutOfBoundsException NoSuchElementException",
        "int minutesUntilHot(int) IndexOutOfBoundsException NoSuchElementException",
        "int rackByTemperature(int) NoSuchElementException",
        "int aisleByHeat(int) NoSuchElementException",
        "int storedHeat(int) IndexOutOfBoundsException",
        "int limit()",
        "int minute()",
        "int madeTotal()",
        "int carriedTotal()",
        "int energyTotal()",
        "double meanTemperature() ArithmeticException",
        "float hotShare() ArithmeticException",
        "boolean isConsistent()",
        "int renderRack(int) IndexOutOfBoundsException",
        "int renderAisle(int) IndexOutOfBoundsException",
        "char outputAt(int) IndexOutOfBoundsException",
        "int type(char) IllegalArgumentException IllegalStateException",
        "int runScript() IllegalArgumentException IllegalStateException",
        "int errorPosition() NoSuchElementException",
        "int failedCommand() NoSuchElementException",
        "int undo() NoSuchElementException",
        "int save()",
        "int restore() IllegalStateException",
    };

    public static void main(String[] args) {
        methods();
        otherMembers();
        nestedClasses();
        Check.end();
    }

    private static void methods() {
        Set<String> found = new TreeSet<>();
        Set<String> names = new TreeSet<>();
        for (Method method : CoolingPlanner.class.getDeclaredMethods()) {
            if (Modifier.isPublic(method.getModifiers())) {
                found.add(describe(method));
                names.add(method.getName());
            }
        }
        Check.same("the public methods", new TreeSet<>(List.of(FACE)), found);
        for (Method method : CoolingPlanner.class.getDeclaredMethods()) {
            if (!Modifier.isPublic(method.getModifiers())) {
                Check.same(method + " is private", true, Modifier.isPrivate(method.getModifiers()));
                Check.same(method + " has a public one's name", false, names.contains(method.getName()));
            }
        }
    }

    private static String describe(Method method) {
        List<String> parameters = new ArrayList<>();
        for (Class<?> type : method.getParameterTypes()) {
            parameters.add(type.getSimpleName());
        }
        StringBuilder text = new StringBuilder(Modifier.isStatic(method.getModifiers()) ? "static " : "");
        text.append(method.getReturnType().getSimpleName()).append(' ').append(method.getName());
        text.append('(').append(String.join(", ", parameters)).append(')');
        for (Class<?> type : method.getExceptionTypes()) {
            text.append(' ').append(type.getSimpleName());
        }
        return text.toString();
    }

    private static void otherMembers() {
        Check.same("the class", Modifier.PUBLIC | Modifier.FINAL, CoolingPlanner.class.getModifiers());
        Constructor<?>[] constructors = CoolingPlanner.class.getDeclaredConstructors();
        Check.same("constructors", 1, constructors.length);
        Check.same("the constructor's parameters", 0, constructors[0].getParameterCount());
        Check.same("the constructor is public", true, Modifier.isPublic(constructors[0].getModifiers()));
        for (Field field : CoolingPlanner.class.getDeclaredFields()) {
            Check.same(field + " is private", true, Modifier.isPrivate(field.getModifiers()));
            boolean changesForAll = Modifier.isStatic(field.getModifiers()) && !Modifier.isFinal(field.getModifiers());
            Check.same(field + " is static and not final", false, changesForAll);
        }
    }

    private static void nestedClasses() {
        Class<?>[] nested = CoolingPlanner.class.getDeclaredClasses();
        Check.same("some twelve classes at most", true, nested.length < 12);
        for (Class<?> type : nested) {
            int modifiers = type.getModifiers();
            Check.same(type + " is static", true, Modifier.isStatic(modifiers));
            Check.same(type + " is hidden", false, Modifier.isPublic(modifiers) || Modifier.isProtected(modifiers));
        }
    }
}
