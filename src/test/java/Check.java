import java.util.function.Consumer;
import java.util.function.Supplier;

/** Counts answers that are not due and ends the test with exit code 1 if there was one. */
final class Check {
    private int wrong;

    void same(String call, Object got, Object due) {
        if (!got.equals(due)) {
            wrong++;
            System.out.println(call + " answered " + got + ", due is " + due);
        }
    }

    /** The call on a net made by the maker throws just this, and leaves the net as one on which nothing was called. */
    void refused(String call, Class<? extends RuntimeException> due, Supplier<StormBasin> maker,
            Consumer<StormBasin> action) {
        StormBasin net = maker.get();
        same(call + " throws", thrownBy(() -> action.accept(net)), due.getName());
        same(call + " changed the net", stateOf(net), stateOf(maker.get()));
    }

    static String thrownBy(Runnable call) {
        try {
            call.run();
            return "nothing";
        } catch (RuntimeException e) {
            return isByTheClass(e) ? e.getClass().getName() : "what the library threw, " + e;
        }
    }

    /** A throw statement of the class stands first in the trace; the library's own checks do not count. */
    private static boolean isByTheClass(RuntimeException thrown) {
        StackTraceElement[] trace = thrown.getStackTrace();
        return trace.length > 0 && trace[0].getClassName().startsWith("StormBasin");
    }

    void end() {
        if (wrong > 0) {
            System.out.println(wrong + " answers are not as due");
            System.exit(1);
        }
        System.out.println("all answers are as due");
    }

    /** All that the calls without an effect tell of a small net. */
    private static String stateOf(StormBasin net) {
        StringBuilder text = new StringBuilder();
        text.append(net.basinCount()).append(' ').append(net.ruleCount()).append(' ')
                .append(net.houseCount()).append(' ').append(net.clock()).append(' ')
                .append(net.rainTotal()).append(' ').append(net.riverTotal()).append(' ')
                .append(net.heldTotal()).append(' ').append(net.floodedSoFar()).append(' ')
                .append(net.floodedWith()).append(' ').append(net.paidTotal());
        for (int basin = 0; basin < net.basinCount(); basin++) {
            appendBasin(text, net, basin);
        }
        for (int rule = 0; rule < net.ruleCount(); rule++) {
            text.append("\nrule ").append(net.doesHold(rule));
        }
        for (int house = 0; house < net.houseCount(); house++) {
            text.append("\nhouse ").append(net.claimCount(house)).append(' ').append(net.paidTo(house));
        }
        text.append("\nline ").append(lineOf(net));
        for (int rule = 0; rule < net.ruleCount(); rule++) {
            net.writeRule(rule);
            text.append(' ').append(lineOf(net));
        }
        return text.toString();
    }

    private static void appendBasin(StringBuilder text, StormBasin net, int basin) {
        text.append("\nbasin ").append(net.cellCount(basin)).append(' ').append(net.capacityOf(basin))
                .append(' ').append(net.openingNow(basin)).append(' ').append(net.volumeOf(basin))
                .append(' ').append(net.streetVolume(basin)).append(' ').append(net.wetCells(basin))
                .append(' ').append(net.setHand(basin, 0)).append(' ').append(net.setRain(basin, 0));
        for (int cell = 0; cell < net.cellCount(basin); cell++) {
            text.append(' ').append(net.depthAt(basin, cell)).append('/').append(net.wetHours(basin, cell));
        }
    }

    /** The whole line, read until there is no such character. */
    static String lineOf(StormBasin net) {
        StringBuilder text = new StringBuilder();
        for (int index = 0; index < 20; index++) {
            try {
                text.append(net.lineAt(index));
            } catch (IndexOutOfBoundsException e) {
                break;
            }
        }
        return text.toString();
    }
}
