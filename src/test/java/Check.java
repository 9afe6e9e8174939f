import java.util.function.Consumer;
import java.util.function.Supplier;

/** Counts answers that are not due and ends the test with exit code 1 if there was one. */
final class Check {
    private int wrong;

    void same(String call, Object got, Object due) {
        if (!got.equals(due)) {
            wrong++;
            System.out.println(call + " answered " + got + ", due is " + due);
        }
    }

    /** The call throws just this. */
    void thrown(String call, Class<? extends RuntimeException> due, Runnable action) {
        same(call + " throws", thrownBy(action), due.getName());
    }

    /** The call on a net made by the maker throws just this, and leaves the net as one on which nothing was called. */
    void refused(String call, Class<? extends RuntimeException> due, Supplier<StormBasin> maker,
            Consumer<StormBasin> action) {
        StormBasin net = maker.get();
        thrown(call, due, () -> action.accept(net));
        same(call + " changed the net", Portrait.of(net), Portrait.of(maker.get()));
    }

    static String thrownBy(Runnable call) {
        try {
            call.run();
            return "nothing";
        } catch (RuntimeException e) {
            return nameOf(e);
        }
    }

    static String nameOf(Throwable thrown) {
        return isByTheClass(thrown) ? thrown.getClass().getName() : "what the machine or the library threw, " + thrown;
    }

    /** A throw statement of the class stands first in the trace; the checks of the machine and the library do not count. */
    private static boolean isByTheClass(Throwable thrown) {
        StackTraceElement[] trace = thrown.getStackTrace();
        boolean isDivision = "/ by zero".equals(thrown.getMessage());
        return trace.length > 0 && trace[0].getClassName().split("\\$")[0].equals("StormBasin") && !isDivision;
    }

    void end() {
        if (wrong > 0) {
            System.out.println(wrong + " answers are not as due");
            System.exit(1);
        }
        System.out.println("all answers are as due");
    }

    /** The whole line, read until there is no such character. */
    static String lineOf(StormBasin net) {
        StringBuilder text = new StringBuilder();
        for (int index = 0; index < 20; index++) {
            try {
                text.append(net.lineAt(index));
            } catch (IndexOutOfBoundsException e) {
                break;
            }
        }
        return text.toString();
    }
}
