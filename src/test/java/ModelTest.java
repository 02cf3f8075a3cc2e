import java.lang.reflect.InvocationTargetException;
import java.lang.reflect.Method;
import java.util.ArrayList;
import java.util.Arrays;
import java.util.List;
import java.util.Map;
import java.util.Random;
import java.util.TreeMap;

/** Long runs of calls, each answer compared with PlainRiver's; the runs are always the same. */
public final class ModelTest {
    private static final int RUNS = 1500;
    private static final int CALLS = 512;
    private static final Check c = new Check("ModelTest");
    private static final Map<String, Integer> seen = new TreeMap<>();

    /** How often a method is called; those that are not here are called once in the same time. */
    private static final Map<String, Integer> OFTEN = Map.of("addReach", 3, "addBarge", 6,
            "couple", 4, "pass", 8, "voyage", 8, "rain", 4, "buy", 4, "turn", 2, "lineAt", 2,
            "waterFor", 2);

    public static void main(String[] args) throws ReflectiveOperationException {
        List<Method> methods = new ArrayList<>();
        for (Method m : sortedMethods()) {
            for (int i = 0; i < OFTEN.getOrDefault(m.getName(), 1); i++) {
                methods.add(m);
            }
        }
        boolean isRight = true;
        for (int run = 0; run < RUNS && isRight; run++) {
            isRight = isRightRun(run, methods);
        }
        c.is("all runs are right", true, isRight);
        everythingWasSeen();
        if (args.length > 0) {
            seen.forEach((what, times) -> System.out.println(what + ": " + times));
        }
        c.end();
    }

    private static List<Method> sortedMethods() {
        List<Method> methods = new ArrayList<>();
        for (Method m : BargeRiver.class.getDeclaredMethods()) {
            if (java.lang.reflect.Modifier.isPublic(m.getModifiers())) {
                methods.add(m);
            }
        }
        methods.sort(java.util.Comparator.comparing(Method::getName));
        return methods;
    }

    private static boolean isRightRun(int run, List<Method> methods)
            throws ReflectiveOperationException {
        Random random = new Random(run);
        BargeRiver river = new BargeRiver();
        PlainRiver plain = new PlainRiver();
        List<String> calls = new ArrayList<>();
        for (int call = 0; call < CALLS; call++) {
            Method m = methods.get(random.nextInt(methods.size()));
            if (call < 4 && random.nextInt(4) > 0) {
                m = BargeRiver.class.getMethod("addReach", int.class, int.class, int.class,
                        int.class, int.class);
            }
            Method same = PlainRiver.class.getDeclaredMethod(m.getName(), m.getParameterTypes());
            Object[] arguments = arguments(m, random, plain, run % 4);
            Object due = answer(same, plain, arguments);
            Object got = answer(m, river, arguments);
            calls.add(m.getName() + Arrays.toString(arguments) + " -> " + got);
            if (!due.equals(got)) {
                System.out.println("run " + run + ", due at last is " + due + ": " + calls);
                return false;
            }
            count(m.getName(), due, plain, arguments);
        }
        return true;
    }

    private static void count(String name, Object due, PlainRiver plain, Object[] arguments) {
        String what = name;
        if (due instanceof Class) {
            what += " " + ((Class<?>) due).getSimpleName();
            if (due == UnsupportedOperationException.class
                    && (name.equals("pass") || name.equals("voyage"))) {
                boolean isDown = name.equals("pass") ? (Boolean) arguments[1]
                        : (Integer) arguments[1] > plain.reachOf((Integer) arguments[0]);
                what += " " + plain.refusalReason() + (isDown ? " down" : " up");
            }
        } else if (due instanceof Boolean) {
            what += " " + due;
        }
        seen.merge(what, 1, Integer::sum);
    }

    private static Object answer(Method m, Object river, Object[] arguments)
            throws IllegalAccessException {
        try {
            return m.invoke(river, arguments);
        } catch (InvocationTargetException e) {
            StackTraceElement[] trace = e.getCause().getStackTrace();
            c.is("an exception is thrown by the program itself", true,
                    trace.length > 0 && trace[0].getClassName().contains("River"));
            return e.getCause().getClass();
        }
    }

    private static Object[] arguments(Method m, Random random, PlainRiver plain, int kind) {
        int reach = number(random, plain.reachCount());
        int lock = number(random, plain.reachCount() - 1);
        int barge = number(random, plain.bargeCount());
        switch (m.getName()) {
            case "addReach":
                return new Object[] {between(random, 1, 50), between(random, 0, 60),
                    kind < 2 ? between(random, 1, 30) : between(random, 1, 200),
                    kind == 3 ? between(random, 10, 60) : between(random, 10, 200),
                    between(random, 5, 60)};
            case "addBarge":
                return new Object[] {reach,
                    kind == 1 ? between(random, 5, 20) : between(random, 5, 80),
                    kind < 3 && random.nextInt(3) > 0 ? between(random, 2, 5)
                        : between(random, 2, 20),
                    between(random, 1, 20)};
            case "rain":
                return new Object[] {reach, random.nextInt(3) > 0 ? between(random, 1, 400)
                        : between(random, 1, 5000)};
            case "couple":
                return new Object[] {barge, number(random, plain.bargeCount())};
            case "convoyAt":
                return new Object[] {barge, number(random, random.nextInt(4) + 1)};
            case "partsFor":
                return new Object[] {barge, lock};
            case "pass":
                return new Object[] {barge, random.nextBoolean()};
            case "voyage": case "isPossible": case "waterFor": case "worthIn":
                return new Object[] {barge, reach};
            case "buy": case "sell":
                return new Object[] {barge, random.nextInt(3) > 0 ? between(random, 1, 20)
                        : between(random, 1, 999)};
            case "sellToDraught":
                return new Object[] {barge, between(random, 1, random.nextBoolean() ? 60 : 20)};
            case "movementFrom": case "movementTo": case "movementVolume":
                return new Object[] {number(random, plain.movementCount())};
            case "lineAt":
                return new Object[] {number(random, random.nextInt(24))};
            case "lockfulOf": case "lengthOf": case "sillOf": case "isFull": case "turn":
            case "waterThrough":
                return new Object[] {lock};
            case "reachOf": case "cargoOf": case "draughtOf": case "isAfloat": case "uncouple":
            case "convoySize": case "greatestLoad": case "bestReach":
                return new Object[] {barge};
            default:
                return m.getParameterCount() == 0 ? new Object[0] : new Object[] {reach};
        }
    }

    /** Mostly one of so many, seldom the next ones outside or any number at all. */
    private static int number(Random random, int count) {
        int chance = random.nextInt(60);
        if (chance == 0 || count < 1) {
            return random.nextBoolean() ? -1 : count;
        }
        return chance == 1 ? random.nextInt() : random.nextInt(count);
    }

    private static int between(Random random, int least, int most) {
        switch (random.nextInt(100)) {
            case 0: return least - 1;
            case 1: return most + 1;
            case 2: return random.nextInt();
            case 3: case 4: case 5: return least;
            case 6: case 7: case 8: return most;
            default: return least + random.nextInt(most - least + 1);
        }
    }

    /** What the document promises must happen in the runs, or they would show nothing of it. */
    private static void everythingWasSeen() {
        for (Method m : sortedMethods()) {
            for (Class<?> e : m.getExceptionTypes()) {
                String what = m.getName() + " " + e.getSimpleName();
                boolean isSeen = seen.keySet().stream().anyMatch(key -> key.startsWith(what));
                c.is(what + " happens", true, isSeen);
            }
            boolean isAnswered = seen.containsKey(m.getName())
                    || seen.containsKey(m.getName() + " true");
            c.is(m.getName() + " is answered", true, isAnswered);
        }
        for (int reason = 1; reason <= 5; reason++) {
            for (String name : new String[] {"pass", "voyage"}) {
                String what = name + " UnsupportedOperationException " + reason;
                c.is(what + " down happens", true, seen.containsKey(what + " down"));
                c.is(what + " up happens", true, seen.containsKey(what + " up"));
            }
        }
    }
}
