import java.lang.reflect.InvocationTargetException;
import java.lang.reflect.Method;
import java.util.Arrays;
import java.util.Comparator;
import java.util.Random;

/** Long runs of calls with many arguments, wrong ones too, each answered by the class as by BridgeModel. */
public final class ModelTest {
    private static final int RUNS = 600;
    private static final int CALLS = 512;
    private static final String CHANGING = " addPerson setBudget setSends setLoud addRoom enter leave split join pin"
            + " unpin pass record stop ";
    private static final int[] BUDGETS = {0, 99, 100, 299, 400, 700, 1200, 1600, 2500, 3300, 5000, 7000, 9999};

    private final Method[] changing;
    private final Method[] asking;
    private final Random random;
    private final int seed;

    private ModelTest(int seed) {
        this.seed = seed;
        random = new Random(seed);
        changing = methods(true);
        asking = methods(false);
    }

    public static void main(String[] args) throws Exception {
        for (int seed = 0; seed < RUNS; seed++) {
            new ModelTest(seed).run();
        }
        Check.end();
    }

    private static Method[] methods(boolean change) {
        return Arrays.stream(BridgeModel.class.getMethods())
                .filter(m -> m.getDeclaringClass() == BridgeModel.class)
                .filter(m -> CHANGING.contains(" " + m.getName() + " ") == change)
                .sorted(Comparator.comparing(Method::getName))
                .toArray(Method[]::new);
    }

    private void run() throws Exception {
        VideoBridge bridge = new VideoBridge();
        BridgeModel model = new BridgeModel();
        int people = random.nextInt(11);
        int rooms = random.nextInt(5);
        for (int call = 0; call < CALLS; call++) {
            Method method = pick(call, people, rooms);
            Object[] arguments = new Object[method.getParameterCount()];
            for (int i = 0; i < arguments.length; i++) {
                arguments[i] = argument(method.getName(), i, model);
            }
            Object due = answer(method, model, arguments);
            Object got = answer(VideoBridge.class.getMethod(method.getName(), method.getParameterTypes()), bridge,
                    arguments);
            Check.same("seed " + seed + " call " + call + ": " + method.getName() + Arrays.toString(arguments),
                    due, got);
        }
    }

    private Method pick(int call, int people, int rooms) {
        if (call < people) {
            return named("addPerson");
        }
        if (call < people + rooms) {
            return named("addRoom");
        }
        if (call < people + rooms + 2 * people) {
            return named(random.nextBoolean() ? "setSends" : "enter");
        }
        if (random.nextInt(6) == 0) {
            return named("pass");
        }
        if (random.nextInt(6) == 0) {
            return named("setLoud");
        }
        Method[] from = random.nextBoolean() ? changing : asking;
        Method method = from[random.nextInt(from.length)];
        boolean rare = method.getName().equals("split") || method.getName().equals("addRoom");
        return rare && random.nextInt(3) > 0 ? named("enter") : method;
    }

    private Method named(String name) {
        return Arrays.stream(changing).filter(m -> m.getName().equals(name)).findFirst().orElseThrow();
    }

    private Integer argument(String method, int place, BridgeModel model) {
        if (random.nextInt(40) == 0) {
            int[] odd = {-1, 4, 6, 8, 10, 60, 61, 100, 10000, Integer.MIN_VALUE, Integer.MAX_VALUE};
            return odd[random.nextInt(odd.length)];
        }
        boolean second = place == 1;
        return switch (method) {
            case "addPerson" -> budget();
            case "setBudget" -> second ? budget() : person(model);
            case "setSends" -> second ? (Integer) random.nextInt(4) : person(model);
            case "setLoud" -> second ? loudness() : person(model);
            case "enter" -> second ? room(model) : person(model);
            case "split", "join", "inRoom", "speaker", "challenge", "record" -> room(model);
            case "personAt" -> second ? person(model) : room(model);
            case "pass" -> random.nextInt(20) == 0 ? 60 : 1 + random.nextInt(4);
            case "turnAt" -> random.nextInt(model.changes() + 1);
            case "noteAt" -> second ? random.nextInt(model.tick() + 1) : random.nextInt(8);
            case "stop" -> random.nextInt(30);
            case "stateOf", "follows" -> random.nextInt(8);
            default -> person(model);
        };
    }

    private Integer person(BridgeModel model) {
        return random.nextInt(model.people() + (random.nextInt(10) == 0 ? 2 : model.people() == 0 ? 1 : 0));
    }

    private Integer room(BridgeModel model) {
        return random.nextInt(model.rooms() + (random.nextInt(10) == 0 ? 2 : model.rooms() == 0 ? 1 : 0));
    }

    private Integer budget() {
        return random.nextInt(3) == 0 ? random.nextInt(10000) : BUDGETS[random.nextInt(BUDGETS.length)];
    }

    private Integer loudness() {
        return random.nextInt(4) == 0 ? random.nextInt(100) : 8 + 4 * random.nextInt(3) + random.nextInt(3);
    }

    private static Object answer(Method method, Object target, Object[] arguments) throws Exception {
        try {
            return method.invoke(target, arguments);
        } catch (InvocationTargetException e) {
            return e.getCause().getClass();
        }
    }
}
