import java.lang.reflect.InvocationTargetException;
import java.lang.reflect.Method;
import java.util.Arrays;
import java.util.HashMap;
import java.util.List;
import java.util.Map;
import java.util.Random;

/** All promises: runs of calls by chance, always the same ones, are answered as the model answers them. */
final class RandomRunsTest {
    private static final int RUNS = 400;
    private static final int CALLS = 500;
    private static final Check CHECK = new Check();

    // The arguments of each call: a kind of number, or the range that the document gives.
    private static final String[] BUILDING = {
        "addBasin area depth 0..20 below 0..30", "addBasin area depth 0..20 below 0..30", "addCell basin 0..30",
        "addCell basin 0..30", "addCell basin 0..30", "setHand basin 0..10", "setRain basin rain",
    };
    private static final String[] SETTING = {
        "setHand basin 0..10", "setRain basin rain", "setRain basin rain",
        "addRule basin basin flag level 0..10", "addRule basin basin flag level 0..10", "removeRule rule",
        "addHouse basin cell 1..100 0..5000", "pass 1..24", "pass 1..2", "pass 1..1", "pass 1..1", "pass 1..1",
    };
    private static final String[] ASKING = {
        "basinCount", "cellCount basin", "capacityOf basin", "ruleCount", "doesHold rule", "openingNow basin",
        "clock", "volumeOf basin", "levelOf basin", "streetVolume basin", "rainTotal", "riverTotal", "heldTotal",
        "isBalanced", "depthAt basin cell", "depthByPouring basin cell", "depthThen basin cell hour",
        "wetCells basin", "wetHours basin cell", "floodedSoFar", "houseCount", "wasWet house hour",
        "worthOf house hour", "claim house hour", "claim house hour", "claimWorst house", "claimCount house",
        "paidTo house", "paidTotal", "meanPayment", "floodedWith", "floodedWithOpening basin 0..10",
        "bestOpening basin", "writeRule rule", "lineAt 0..9",
    };

    private final Random chance;
    private final StormBasin net = new StormBasin();
    private final Model model = new Model();
    private final int largestRain;

    private RandomRunsTest(int run) {
        chance = new Random(run);
        largestRain = List.of(10, 40, 120, 500).get(run % 4);
    }

    public static void main(String[] args) throws ReflectiveOperationException {
        Map<String, Method> ofNet = methodsOf(StormBasin.class);
        Map<String, Method> ofModel = methodsOf(Model.class);
        for (int run = 0; run < RUNS; run++) {
            new RandomRunsTest(run).go(run, ofNet, ofModel);
        }
        CHECK.end();
    }

    private static Map<String, Method> methodsOf(Class<?> face) {
        Map<String, Method> methods = new HashMap<>();
        for (Method method : face.getDeclaredMethods()) {
            if (!java.lang.reflect.Modifier.isPrivate(method.getModifiers())) {
                methods.put(method.getName(), method);
            }
        }
        return methods;
    }

    private void go(int run, Map<String, Method> ofNet, Map<String, Method> ofModel)
            throws ReflectiveOperationException {
        int building = 5 + chance.nextInt(40);
        for (int call = 0; call < CALLS; call++) {
            String[] group = call < building ? BUILDING : chance.nextInt(4) == 0 ? SETTING : ASKING;
            String[] words = group[chance.nextInt(group.length)].split(" ");
            Object[] arguments = new Object[words.length - 1];
            for (int i = 0; i < arguments.length; i++) {
                arguments[i] = words[i + 1].equals("flag") ? (Object) chance.nextBoolean() : (Object) number(words[i + 1]);
            }
            String told = "run " + run + ", call " + call + ": " + words[0] + Arrays.toString(arguments);
            CHECK.same(told, answer(ofNet.get(words[0]), net, arguments),
                    answer(ofModel.get(words[0]), model, arguments));
        }
    }

    private int number(String kind) {
        int largestBasin = model.basinCount() - 1;
        switch (kind) {
            case "area":
                return within(1, chance.nextBoolean() ? 4 : 50);
            case "depth":
                return within(1, chance.nextBoolean() ? 6 : 40);
            case "level":
                return within(0, chance.nextBoolean() ? 6 : 40);
            case "below":
                return largestBasin < 0 ? within(-1, -1) : within(0, largestBasin);
            case "rain":
                return within(0, largestRain);
            case "basin":
                return within(0, largestBasin);
            case "cell":
                return within(0, 3 + chance.nextInt(5));
            case "rule":
                return within(0, model.ruleCount() - 1);
            case "house":
                return within(0, model.houseCount() - 1);
            case "hour":
                return within(1, model.clock());
            default:
                int dots = kind.indexOf("..");
                return within(Integer.parseInt(kind.substring(0, dots)), Integer.parseInt(kind.substring(dots + 2)));
        }
    }

    /** Mostly a number in the range, now and then one beside it or far from it. */
    private int within(int least, int most) {
        switch (chance.nextInt(40)) {
            case 0:
                return least - 1;
            case 1:
                return most + 1;
            case 2:
                return chance.nextBoolean() ? Integer.MIN_VALUE : Integer.MAX_VALUE;
            case 3:
                return least;
            case 4:
                return most;
            default:
                return most < least ? least : least + chance.nextInt(most - least + 1);
        }
    }

    private static Object answer(Method method, Object object, Object[] arguments)
            throws ReflectiveOperationException {
        try {
            return method.invoke(object, arguments);
        } catch (InvocationTargetException e) {
            Throwable thrown = e.getCause();
            return object instanceof StormBasin ? Check.nameOf(thrown) : thrown.getClass().getName();
        }
    }
}
