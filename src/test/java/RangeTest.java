import java.lang.reflect.InvocationTargetException;
import java.lang.reflect.Method;
import java.lang.reflect.Modifier;
import java.util.ArrayList;
import java.util.Arrays;
import java.util.List;
import java.util.NoSuchElementException;
import java.util.function.Supplier;

/**
 * All promises: for each argument of each call the last values within its range and the first beyond it; what a call
 * throws if it is refused for several causes at once; and that a refused call changes nothing.
 */
final class RangeTest {
    private static final Check CHECK = new Check();
    private static final Class<IndexOutOfBoundsException> INDEX = IndexOutOfBoundsException.class;
    private static final Class<IllegalArgumentException> ARGUMENT = IllegalArgumentException.class;
    private static final Class<IllegalStateException> STATE = IllegalStateException.class;
    private static final Class<UnsupportedOperationException> DRY = UnsupportedOperationException.class;
    private static final Class<NoSuchElementException> NO_HOUR = NoSuchElementException.class;
    private static final Class<ArithmeticException> NO_CLAIM = ArithmeticException.class;
    private static final Class<RuntimeException> NOTHING = null;

    /** A range, and what is due beyond it; a flag has nothing beyond. */
    private record Range(int least, int most, int usual, Class<? extends RuntimeException> beyond) {
        int wrong(int way) {
            return new int[] {least - 1, most + 1, Integer.MIN_VALUE, Integer.MAX_VALUE}[way];
        }
    }

    /** A call on such nets, and what is due there if all arguments are within their ranges. */
    private record Call(Method method, Supplier<StormBasin> maker, Class<? extends RuntimeException> due,
            Range[] ranges) {
    }

    private static final List<Call> CALLS = new ArrayList<>();

    public static void main(String[] args) {
        basinsAndGates();
        hoursAndWater();
        streets();
        houses();
        claims();
        trialsAndLine();
        CHECK.same("calls that the table lacks", missing(), List.of());
        for (Call call : CALLS) {
            lastWithin(call);
            firstBeyond(call);
        }
        CHECK.end();
    }

    // ---- the table

    private static Range index(int least, int most) {
        return new Range(least, most, least, INDEX);
    }

    private static Range argument(int least, int most) {
        return new Range(least, most, (least + most) / 2, ARGUMENT);
    }

    private static void on(Supplier<StormBasin> maker, Class<? extends RuntimeException> due, String name,
            Range... ranges) {
        for (Method method : StormBasin.class.getMethods()) {
            if (method.getName().equals(name) && method.getParameterCount() == ranges.length) {
                CALLS.add(new Call(method, maker, due, ranges));
                return;
            }
        }
        CHECK.same("a call in the table", name, "a call of the face");
    }

    private static void basinsAndGates() {
        addBasinOn(Nets::empty, NOTHING, index(-1, -1));
        addBasinOn(Nets::one, NOTHING, index(0, 0));
        addBasinOn(Nets::two, NOTHING, index(0, 1));
        addBasinOn(Nets::six, STATE, index(0, 5));
        addBasinOn(Nets::onePassed, STATE, index(0, 0));
        addBasinOn(Nets::sixPassed, STATE, index(0, 5));
        on(Nets::empty, INDEX, "addCell", index(0, 0), argument(0, 30));
        on(Nets::one, NOTHING, "addCell", index(0, 0), argument(0, 30));
        on(Nets::six, NOTHING, "addCell", index(0, 5), argument(0, 30));
        on(Nets::eightCells, STATE, "addCell", index(0, 0), argument(0, 30));
        on(Nets::onePassed, STATE, "addCell", index(0, 0), argument(0, 30));
        on(Nets::eightCellsPassed, STATE, "addCell", index(0, 0), argument(0, 30));
        on(Nets::empty, INDEX, "setHand", index(0, 0), argument(0, 10));
        on(Nets::six, NOTHING, "setHand", index(0, 5), argument(0, 10));
        on(Nets::lastHour, NOTHING, "setHand", index(0, 0), argument(0, 10));
        addRuleOn(Nets::empty, INDEX, 0);
        addRuleOn(Nets::one, NOTHING, 0);
        addRuleOn(Nets::six, NOTHING, 5);
        addRuleOn(Nets::twelveRules, STATE, 1);
        addRuleOn(Nets::lastHour, NOTHING, 0);
        for (String name : List.of("removeRule", "doesHold", "writeRule")) {
            on(Nets::empty, INDEX, name, index(0, 0));
            on(Nets::two, INDEX, name, index(0, 0));
            on(Nets::oneRule, NOTHING, name, index(0, 0));
            on(Nets::twelveRules, NOTHING, name, index(0, 11));
        }
    }

    private static void addBasinOn(Supplier<StormBasin> maker, Class<? extends RuntimeException> due, Range below) {
        on(maker, due, "addBasin", argument(1, 50), argument(1, 40), argument(0, 20), below, argument(0, 30));
    }

    private static void addRuleOn(Supplier<StormBasin> maker, Class<? extends RuntimeException> due, int lastBasin) {
        Range flag = new Range(0, 1, 0, null);
        on(maker, due, "addRule", index(0, lastBasin), index(0, lastBasin), flag, argument(0, 40), argument(0, 10));
    }

    private static void hoursAndWater() {
        on(Nets::empty, INDEX, "setRain", index(0, 0), argument(0, 500));
        on(Nets::six, NOTHING, "setRain", index(0, 5), argument(0, 500));
        on(Nets::lastHour, NOTHING, "setRain", index(0, 0), argument(0, 500));
        on(Nets::empty, STATE, "pass", argument(1, 24));
        on(Nets::one, NOTHING, "pass", argument(1, 24));
        on(() -> Nets.passed(Nets.one(), 36), NOTHING, "pass", argument(1, 24));
        on(Nets::lastHour, STATE, "pass", argument(1, 24));
        for (String name : List.of("cellCount", "capacityOf", "openingNow", "volumeOf", "levelOf", "streetVolume",
                "wetCells", "bestOpening")) {
            on(Nets::empty, INDEX, name, index(0, 0));
            on(Nets::one, NOTHING, name, index(0, 0));
            on(Nets::six, NOTHING, name, index(0, 5));
            on(Nets::flooded, NOTHING, name, index(0, 1));
        }
        for (String name : List.of("basinCount", "ruleCount", "clock", "rainTotal", "riverTotal", "heldTotal",
                "isBalanced", "floodedSoFar", "houseCount", "paidTotal", "floodedWith")) {
            on(Nets::empty, NOTHING, name);
            on(Nets::housesThatClaimed, NOTHING, name);
            on(Nets::lastHour, NOTHING, name);
        }
    }

    private static void streets() {
        Range basinOne = new Range(0, 1, 1, INDEX);
        for (String name : List.of("depthAt", "depthByPouring", "wetHours")) {
            on(Nets::empty, INDEX, name, index(0, 0), index(0, 0));
            on(Nets::eightCells, NOTHING, name, index(0, 0), index(0, 7));
            on(Nets::flooded, NOTHING, name, index(0, 1), index(0, 2));
            on(Nets::flooded, NOTHING, name, basinOne, index(0, 0));
        }
        on(Nets::empty, INDEX, "depthThen", index(0, 0), index(0, 0), argument(1, 1));
        on(Nets::two, ARGUMENT, "depthThen", index(0, 1), index(0, 2), argument(1, 1));
        on(Nets::flooded, NOTHING, "depthThen", index(0, 1), index(0, 2), argument(1, 3));
        on(Nets::flooded, NOTHING, "depthThen", basinOne, index(0, 0), argument(1, 3));
        on(Nets::lastHour, NOTHING, "depthThen", index(0, 0), index(0, 0), argument(1, 60));
    }

    private static void houses() {
        addHouseOn(Nets::empty, INDEX, index(0, 0), index(0, 0));
        addHouseOn(Nets::eightCells, NOTHING, index(0, 0), index(0, 7));
        addHouseOn(Nets::two, NOTHING, index(0, 1), index(0, 2));
        addHouseOn(Nets::two, NOTHING, new Range(0, 1, 1, INDEX), index(0, 0));
        addHouseOn(Nets::tenHouses, STATE, index(0, 1), index(0, 2));
        addHouseOn(Nets::lastHour, NOTHING, index(0, 0), index(0, 0));
        for (String name : List.of("wasWet", "worthOf")) {
            on(Nets::empty, INDEX, name, index(0, 0), argument(1, 1));
            on(Nets::flooded, INDEX, name, index(0, 0), argument(1, 3));
            on(Nets::tenHouses, ARGUMENT, name, index(0, 9), argument(1, 1));
            on(Nets::housesInWetHours, NOTHING, name, index(0, 1), argument(1, 3));
            on(Nets::housesInDryHours, NOTHING, name, index(0, 1), argument(1, 3));
            on(Nets::housesThatClaimed, NOTHING, name, index(0, 1), argument(1, 3));
        }
        for (String name : List.of("claimCount", "paidTo")) {
            on(Nets::empty, INDEX, name, index(0, 0));
            on(Nets::flooded, INDEX, name, index(0, 0));
            on(Nets::tenHouses, NOTHING, name, index(0, 9));
            on(Nets::housesThatClaimed, NOTHING, name, index(0, 1));
        }
    }

    private static void addHouseOn(Supplier<StormBasin> maker, Class<? extends RuntimeException> due, Range basin,
            Range cell) {
        on(maker, due, "addHouse", basin, cell, argument(1, 100), argument(0, 5000));
    }

    private static void claims() {
        on(Nets::empty, INDEX, "claim", index(0, 0), argument(1, 1));
        on(Nets::flooded, INDEX, "claim", index(0, 0), argument(1, 3));
        on(Nets::housesWithoutHours, ARGUMENT, "claim", index(0, 1), argument(1, 1));
        on(Nets::housesInDryHours, DRY, "claim", index(0, 1), argument(1, 3));
        on(Nets::housesInWetHours, NOTHING, "claim", index(0, 1), argument(1, 3));
        on(Nets::housesThatClaimed, STATE, "claim", index(0, 1), argument(1, 3));
        on(Nets::empty, INDEX, "claimWorst", index(0, 0));
        on(Nets::flooded, INDEX, "claimWorst", index(0, 0));
        on(Nets::housesWithoutHours, NO_HOUR, "claimWorst", index(0, 1));
        on(Nets::housesInDryHours, NO_HOUR, "claimWorst", index(0, 1));
        on(Nets::housesInWetHours, NOTHING, "claimWorst", index(0, 1));
        on(Nets::housesThatClaimed, NO_HOUR, "claimWorst", index(0, 1));
        on(Nets::empty, NO_CLAIM, "meanPayment");
        on(Nets::housesWithoutHours, NO_CLAIM, "meanPayment");
        on(Nets::housesInWetHours, NO_CLAIM, "meanPayment");
        on(Nets::housesThatClaimed, NOTHING, "meanPayment");
    }

    private static void trialsAndLine() {
        on(Nets::empty, INDEX, "floodedWithOpening", index(0, 0), argument(0, 10));
        on(Nets::six, NOTHING, "floodedWithOpening", index(0, 5), argument(0, 10));
        on(Nets::flooded, NOTHING, "floodedWithOpening", index(0, 1), argument(0, 10));
        on(Nets::empty, INDEX, "lineAt", index(0, 0));
        on(Nets::oneRule, INDEX, "lineAt", index(0, 0));
        on(Nets::written, NOTHING, "lineAt", index(0, 6));
    }

    // ---- what the table asks

    private static List<String> missing() {
        List<String> names = new ArrayList<>();
        for (Method method : StormBasin.class.getDeclaredMethods()) {
            if (Modifier.isPublic(method.getModifiers())) {
                names.add(method.getName());
            }
        }
        CALLS.forEach(call -> names.removeIf(name -> name.equals(call.method.getName())));
        return names;
    }

    private static void lastWithin(Call call) {
        answers(call, usual(call));
        int[] least = usual(call);
        int[] most = usual(call);
        for (int i = 0; i < call.ranges.length; i++) {
            least[i] = call.ranges[i].least;
            answers(call, withOne(call, i, call.ranges[i].least));
            answers(call, withOne(call, i, call.ranges[i].most));
            // The greatest number of a cell is another one in each street.
            most[i] = i == 1 && call.ranges[i].beyond == INDEX ? most[i] : call.ranges[i].most;
        }
        answers(call, least);
        if (call.ranges.length > 0 && call.ranges[0].usual == call.ranges[0].least) {
            answers(call, most);
        }
    }

    private static int[] usual(Call call) {
        return Arrays.stream(call.ranges).mapToInt(Range::usual).toArray();
    }

    private static int[] withOne(Call call, int place, int value) {
        int[] arguments = usual(call);
        arguments[place] = value;
        return arguments;
    }

    /** All arguments are within their ranges: the call is answered, or refused for the state of the net alone. */
    private static void answers(Call call, int[] arguments) {
        if (call.due == NOTHING) {
            CHECK.same(told(call, arguments), thrownBy(call, call.maker.get(), arguments), "nothing");
        } else {
            refuses(call, arguments, call.due);
        }
    }

    /** Each set of arguments, beyond their ranges by one or by far; with the state of the net, causes of all kinds meet. */
    private static void firstBeyond(Call call) {
        for (int set = 1; set < 1 << call.ranges.length; set++) {
            for (int way = 0; way < 4; way++) {
                int[] arguments = usual(call);
                List<Class<?>> causes = new ArrayList<>();
                causes.add(call.due);
                for (int i = 0; i < arguments.length; i++) {
                    if ((set >> i & 1) == 1 && call.ranges[i].beyond != null) {
                        arguments[i] = call.ranges[i].wrong(way);
                        causes.add(call.ranges[i].beyond);
                    }
                }
                // A set of the flag alone is no cause.
                if (causes.size() > 1) {
                    refuses(call, arguments, firstDocumented(call.method, causes));
                }
            }
        }
    }

    /** The face names the exceptions of a call in the order in which the document does. */
    private static Class<?> firstDocumented(Method method, List<Class<?>> causes) {
        for (Class<?> documented : method.getExceptionTypes()) {
            if (causes.contains(documented)) {
                return documented;
            }
        }
        throw new AssertionError(method + " does not name any of " + causes);
    }

    private static void refuses(Call call, int[] arguments, Class<?> due) {
        StormBasin net = call.maker.get();
        CHECK.same(told(call, arguments), thrownBy(call, net, arguments), due.getName());
        CHECK.same(told(call, arguments) + " changed the net", Portrait.of(net), Portrait.of(call.maker.get()));
    }

    private static String thrownBy(Call call, StormBasin net, int[] arguments) {
        Class<?>[] types = call.method.getParameterTypes();
        Object[] values = new Object[types.length];
        for (int i = 0; i < types.length; i++) {
            values[i] = types[i] == boolean.class ? (Object) (arguments[i] == 1) : (Object) arguments[i];
        }
        try {
            call.method.invoke(net, values);
            return "nothing";
        } catch (InvocationTargetException e) {
            return Check.nameOf(e.getCause());
        } catch (IllegalAccessException e) {
            throw new AssertionError(e);
        }
    }

    private static String told(Call call, int[] arguments) {
        return call.method.getName() + Arrays.toString(arguments) + " with " + call.maker.get().basinCount() + " basins at "
                + call.maker.get().clock();
    }
}
