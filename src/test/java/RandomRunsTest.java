import java.lang.reflect.InvocationTargetException;
import java.lang.reflect.Method;
import java.util.ArrayList;
import java.util.Arrays;
import java.util.Comparator;
import java.util.LinkedHashMap;
import java.util.List;
import java.util.Map;
import java.util.Random;

/** Seeded runs of 512 calls each: the class has to answer every call as the model does. */
public final class RandomRunsTest {
    private static final int RUNS = 1500;
    private static final int CALLS = 512;
    private static final List<Method> METHODS = publicMethods();
    private static final Map<String, Integer> OFTEN = Map.of("update", 12, "rate", 8, "buy", 6, "stage", 8,
            "submit", 6, "review", 6, "pass", 2, "appeal", 3, "couldHave", 4, "holdOf", 4);

    private final Releasetrain store = new Releasetrain();
    private final Model model = new Model();
    private final Random random;
    private final int seed;
    private int callsLeft = CALLS;
    private boolean wrong = false;

    private RandomRunsTest(int seed) {
        this.seed = seed;
        this.random = new Random(seed);
    }

    public static void main(String[] args) {
        Map<String, Integer> answered = new LinkedHashMap<>();
        for (int seed = 0; seed < RUNS; seed++) {
            new RandomRunsTest(seed).run(answered);
        }
        for (Method method : METHODS) {
            Checks.due(method.getName() + " was answered in some run", true,
                    answered.getOrDefault(method.getName(), 0) > 0);
        }
        Checks.finish("RandomRunsTest");
    }

    private static List<Method> publicMethods() {
        List<Method> methods = new ArrayList<>(Arrays.asList(Releasetrain.class.getDeclaredMethods()));
        methods.removeIf(method -> !java.lang.reflect.Modifier.isPublic(method.getModifiers()));
        methods.sort(Comparator.comparing(Method::getName));
        return methods;
    }

    private void run(Map<String, Integer> answered) {
        furnish(answered);
        List<Method> bag = weightedMethods();
        while (callsLeft > 0 && !wrong) {
            Method method = bag.get(random.nextInt(bag.size()));
            if (method.getName().equals("crash")) {
                typeSome(answered);
            }
            call(answered, method, argumentsFor(method));
        }
    }

    /** Most runs start with devices and approved builds, so that the rarer states come up. */
    private void furnish(Map<String, Integer> answered) {
        int devices = random.nextInt(14);
        int builds = random.nextInt(12);
        for (int i = 0; i < devices; i++) {
            call(answered, named("addDevice"), argumentsFor(named("addDevice")));
        }
        for (int i = 0; i < builds; i++) {
            Method add = named(random.nextInt(3) == 0 ? "addFix" : "addBuild");
            call(answered, add, argumentsFor(add));
        }
        for (int i = 0; i < builds; i++) {
            call(answered, named("submit"), i);
        }
        for (int i = 0; i < builds - 2; i++) {
            call(answered, named("review"));
        }
        for (int i = 0; i < builds; i++) {
            call(answered, named("stage"), i, 1 + random.nextInt(100), random.nextInt(10));
        }
    }

    private void typeSome(Map<String, Integer> answered) {
        int letters = random.nextInt(4);
        for (int i = 0; i < letters; i++) {
            call(answered, named("type"), argumentsFor(named("type")));
        }
    }

    private List<Method> weightedMethods() {
        List<Method> bag = new ArrayList<>();
        for (Method method : METHODS) {
            int copies = OFTEN.getOrDefault(method.getName(), 1);
            // Each run leans towards crashes or away from them, else crashes would hold nearly every build.
            if (method.getName().equals("crash")) {
                copies = seed % 4 * 4;
            }
            for (int i = 0; i < copies; i++) {
                bag.add(method);
            }
        }
        return bag;
    }

    private static Method named(String name) {
        return METHODS.stream().filter(method -> method.getName().equals(name)).findFirst().orElseThrow();
    }

    private void call(Map<String, Integer> answered, Method method, Object... arguments) {
        if (callsLeft == 0 || wrong) {
            return;
        }
        callsLeft--;
        Object got = answerOf(store, method, arguments);
        Object due = answerOf(model, inModel(method), arguments);
        wrong = !due.equals(got);
        Checks.due("seed " + seed + ", " + callsLeft + " calls before the end, " + method.getName()
                + Arrays.toString(arguments), due, got);
        if (!String.valueOf(got).startsWith("throws")) {
            answered.merge(method.getName(), 1, Integer::sum);
        }
    }

    private static Method inModel(Method method) {
        try {
            return Model.class.getDeclaredMethod(method.getName(), method.getParameterTypes());
        } catch (NoSuchMethodException e) {
            throw new IllegalStateException(e);
        }
    }

    private static Object answerOf(Object object, Method method, Object[] arguments) {
        try {
            return method.invoke(object, arguments);
        } catch (InvocationTargetException e) {
            return "throws " + e.getCause().getClass().getName();
        } catch (IllegalAccessException e) {
            throw new IllegalStateException(e);
        }
    }

    private Object[] argumentsFor(Method method) {
        switch (method.getName()) {
            case "addDevice":
                return new Object[] {near(0, 5), near(0, 2), near(0, 99)};
            case "addBuild":
                return new Object[] {near(1, 30), many(63), many(7), near(1, 220), few(15), many(255)};
            case "addFix":
                return new Object[] {near(0, 9), near(1, 30), near(1, 220), few(15)};
            case "setSize":
                return new Object[] {random.nextInt(3) == 0 ? near(1, 500) : near(180, 220)};
            case "setBarred":
                return new Object[] {random.nextInt(3) == 0 ? near(0, 15) : few(15)};
            case "stage":
                return new Object[] {near(0, 9), near(1, 100), near(0, 100)};
            case "percentageAfter":
                return new Object[] {near(0, 9), random.nextBoolean() ? near(1, 99) : near(1, 5)};
            case "pass":
                return new Object[] {random.nextInt(8) == 0 ? near(1, 99) : near(1, 5)};
            case "couldHave":
                return new Object[] {near(0, 11), near(0, 9)};
            case "offered", "update", "buildOf", "crash":
                return new Object[] {near(0, 11)};
            case "type":
                return new Object[] {random.nextInt(9) == 0 ? (char) near('a', 'z') : (char) near('a', 'c')};
            case "crashesIn", "buildsIn":
                return new Object[] {near(0, 5)};
            case "stackAt":
                return new Object[] {near(0, 5), near(0, 5)};
            case "likeness":
                return new Object[] {near(0, 5), near(0, 5)};
            case "setBound":
                return new Object[] {near(0, 1000)};
            case "setRate":
                return new Object[] {random.nextBoolean() ? near(0, 9999) : near(0, 2000)};
            case "rate":
                return new Object[] {near(0, 11), near(1, 5)};
            case "buy", "owns", "canUse":
                return new Object[] {near(0, 11), near(0, 7)};
            case "lineAt":
                return new Object[] {near(0, 23)};
            default:
                return method.getParameterCount() == 0 ? new Object[0] : new Object[] {near(0, 9)};
        }
    }

    /** Seldom out of the range, and then mostly just out of it. */
    private int near(int least, int greatest) {
        int dice = random.nextInt(60);
        if (dice == 0) {
            return random.nextInt();
        }
        if (dice == 1) {
            return least - 1;
        }
        return dice == 2 ? greatest + 1 : least + random.nextInt(greatest - least + 1);
    }

    private int many(int all) {
        return random.nextBoolean() ? all : near(0, all) | near(0, all);
    }

    private int few(int all) {
        return near(0, all) & near(0, all) & near(0, all);
    }
}
