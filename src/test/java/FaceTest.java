import java.lang.reflect.Field;
import java.lang.reflect.Method;
import java.lang.reflect.Modifier;
import java.util.Arrays;
import java.util.Set;
import java.util.TreeSet;

/** The public face: what the document lists, and nothing else that is not private. */
public final class FaceTest {
    private static final String[] METHODS = {
        "boolean isAfloat(int) throws IndexOutOfBoundsException",
        "boolean isBalanced()",
        "boolean isFull(int) throws IndexOutOfBoundsException",
        "boolean isPossible(int, int) throws IndexOutOfBoundsException",
        "boolean turn(int) throws IndexOutOfBoundsException, UnsupportedOperationException",
        "char lineAt(int) throws IndexOutOfBoundsException",
        "double meanLevel()",
        "int addBarge(int, int, int, int) throws IllegalArgumentException, "
            + "IllegalStateException, IndexOutOfBoundsException, UnsupportedOperationException",
        "int addReach(int, int, int, int, int) throws IllegalArgumentException, "
            + "IllegalStateException",
        "int airTotal()",
        "int areaOf(int) throws IndexOutOfBoundsException",
        "int bargeCount()",
        "int bestReach(int) throws IndexOutOfBoundsException",
        "int cameTotal()",
        "int cargoOf(int) throws IndexOutOfBoundsException",
        "int convoyAt(int, int) throws IndexOutOfBoundsException, NoSuchElementException",
        "int convoySize(int) throws IndexOutOfBoundsException",
        "int couple(int, int) throws IllegalArgumentException, IllegalStateException, "
            + "IndexOutOfBoundsException",
        "int draughtOf(int) throws IndexOutOfBoundsException",
        "int endWeek()",
        "int greatestLoad(int) throws IndexOutOfBoundsException",
        "int heldTotal()",
        "int lengthOf(int) throws IndexOutOfBoundsException",
        "int levelOf(int) throws IndexOutOfBoundsException",
        "int lockfulOf(int) throws IndexOutOfBoundsException",
        "int movementCount()",
        "int movementFrom(int) throws IndexOutOfBoundsException",
        "int movementTo(int) throws IndexOutOfBoundsException",
        "int movementVolume(int) throws IndexOutOfBoundsException",
        "int partsFor(int, int) throws IndexOutOfBoundsException, UnsupportedOperationException",
        "int pass(int, boolean) throws IndexOutOfBoundsException, NoSuchElementException, "
            + "UnsupportedOperationException",
        "int priceIn(int) throws IndexOutOfBoundsException",
        "int rain(int, int) throws IllegalArgumentException, IndexOutOfBoundsException",
        "int reachCount()",
        "int reachOf(int) throws IndexOutOfBoundsException",
        "int refusalLock() throws NoSuchElementException",
        "int refusalReason() throws NoSuchElementException",
        "int seaTotal()",
        "int sellToDraught(int, int) throws IllegalArgumentException, IllegalStateException, "
            + "IndexOutOfBoundsException",
        "int sillOf(int) throws IndexOutOfBoundsException",
        "int uncouple(int) throws IllegalStateException, IndexOutOfBoundsException",
        "int volumeBySteps(int) throws IndexOutOfBoundsException",
        "int volumeOf(int) throws IndexOutOfBoundsException",
        "int voyage(int, int) throws IllegalStateException, IndexOutOfBoundsException, "
            + "UnsupportedOperationException",
        "int waterFor(int, int) throws IndexOutOfBoundsException, UnsupportedOperationException",
        "int waterThrough(int) throws IndexOutOfBoundsException",
        "int weekCount()",
        "int worthIn(int, int) throws IndexOutOfBoundsException",
        "int writeReach(int) throws IndexOutOfBoundsException",
        "long buy(int, int) throws IllegalArgumentException, IllegalStateException, "
            + "IndexOutOfBoundsException, UnsupportedOperationException",
        "long money()",
        "long sell(int, int) throws IllegalArgumentException, IllegalStateException, "
            + "IndexOutOfBoundsException",
    };
    private static final String[] CONSTANTS = {
        "AGROUND = 3", "AIR = -3", "CHAMBER = 10", "NO_WATER = 4", "SEA = -2", "SHALLOW = 5",
        "SKY = -1", "TOO_DEEP = 2", "TOO_LONG = 1",
    };
    private static final Check c = new Check("FaceTest");

    public static void main(String[] args) throws IllegalAccessException {
        Class<?> river = BargeRiver.class;
        c.is("the class", "public final", Modifier.toString(river.getModifiers()));
        c.is("its constructors", "[public BargeRiver()]",
                Arrays.toString(river.getDeclaredConstructors()));
        c.is("its methods", new TreeSet<>(Arrays.asList(METHODS)), methods(river));
        c.is("its constants", new TreeSet<>(Arrays.asList(CONSTANTS)), constants(river));
        for (Class<?> inside : river.getDeclaredClasses()) {
            c.is(inside + " is private and static", "private static final",
                    Modifier.toString(inside.getModifiers()));
        }
        c.end();
    }

    private static Set<String> methods(Class<?> river) {
        Set<String> open = new TreeSet<>();
        for (Method m : river.getDeclaredMethods()) {
            if (!Modifier.isPrivate(m.getModifiers())) {
                open.add(signature(m));
                c.is(m + " is public only", Modifier.PUBLIC, m.getModifiers());
            }
        }
        return open;
    }

    private static String signature(Method m) {
        StringBuilder text = new StringBuilder();
        text.append(m.getReturnType()).append(' ').append(m.getName());
        text.append(Arrays.toString(m.getParameterTypes()).replace('[', '(').replace(']', ')'));
        Set<String> thrown = new TreeSet<>();
        for (Class<?> e : m.getExceptionTypes()) {
            thrown.add(e.getSimpleName());
        }
        return thrown.isEmpty() ? text.toString() : text + " throws " + String.join(", ", thrown);
    }

    private static Set<String> constants(Class<?> river) throws IllegalAccessException {
        Set<String> open = new TreeSet<>();
        for (Field f : river.getDeclaredFields()) {
            if (!Modifier.isPrivate(f.getModifiers())) {
                c.is(f + " is a constant", "public static final",
                        Modifier.toString(f.getModifiers()));
                open.add(f.getName() + " = " + f.getInt(null));
            }
        }
        return open;
    }
}
