import java.util.function.Supplier;

/** All that a small net tells, as one text: nets with the same text are in the same state. */
final class Portrait {
    // The document leaves free what an object answers after so many calls.
    private static final int MOST_CALLS = 512;

    private final StormBasin net;
    private final int basins;
    private final int rules;
    private final int houses;
    private final int hours;
    private final StringBuilder text = new StringBuilder();
    private int calls;

    private Portrait(StormBasin net) {
        this.net = net;
        basins = net.basinCount();
        rules = net.ruleCount();
        houses = net.houseCount();
        hours = net.clock();
        calls = 4;
    }

    /** Uses the net up: at the end its settings are others and one more hour has passed. */
    static String of(StormBasin net) {
        Portrait portrait = new Portrait(net);
        portrait.tellLine();
        portrait.tellTotals();
        portrait.tellBasins();
        portrait.tellRules();
        portrait.tellHouses();
        portrait.tellWhatFollows();
        return portrait.text.toString();
    }

    private void tell(String call, Object answer) {
        calls++;
        if (calls > MOST_CALLS) {
            throw new AssertionError("the net is too large for a portrait");
        }
        text.append(call).append(' ').append(answer).append('\n');
    }

    private void ask(String call, Supplier<Object> action) {
        Object[] answer = {null};
        String thrown = Check.thrownBy(() -> answer[0] = action.get());
        tell(call, answer[0] == null ? thrown : answer[0]);
    }

    private void tellLine() {
        String line = Check.lineOf(net);
        tell("line", line);
        calls += line.length();
    }

    private void tellTotals() {
        text.append(basins).append(' ').append(rules).append(' ').append(houses).append(' ').append(hours).append('\n');
        tell("floodedWith", net.floodedWith());
        tell("paidTotal", net.paidTotal());
        ask("meanPayment", net::meanPayment);
        tellWater();
    }

    private void tellWater() {
        tell("rainTotal", net.rainTotal());
        tell("riverTotal", net.riverTotal());
        tell("heldTotal", net.heldTotal());
        tell("isBalanced", net.isBalanced());
        tell("floodedSoFar", net.floodedSoFar());
        for (int basin = 0; basin < basins; basin++) {
            tell("volumeOf", net.volumeOf(basin));
            tell("levelOf", net.levelOf(basin));
            tell("streetVolume", net.streetVolume(basin));
        }
    }

    private void tellBasins() {
        for (int basin = 0; basin < basins; basin++) {
            int cells = net.cellCount(basin);
            tell("cellCount", cells);
            tell("capacityOf", net.capacityOf(basin));
            tell("openingNow", net.openingNow(basin));
            tell("wetCells", net.wetCells(basin));
            tell("bestOpening", net.bestOpening(basin));
            tell("floodedWithOpening", net.floodedWithOpening(basin, 10));
            for (int cell = 0; cell < cells; cell++) {
                tellCell(basin, cell);
            }
        }
    }

    private void tellCell(int basin, int cell) {
        tell("depthAt", net.depthAt(basin, cell));
        tell("depthByPouring", net.depthByPouring(basin, cell));
        tell("wetHours", net.wetHours(basin, cell));
        for (int hour = 1; hour <= hours; hour++) {
            tell("depthThen", net.depthThen(basin, cell, hour));
        }
    }

    private void tellRules() {
        for (int rule = 0; rule < rules; rule++) {
            tell("doesHold", net.doesHold(rule));
            tell("writeRule", net.writeRule(rule));
            tellLine();
        }
    }

    private void tellHouses() {
        for (int house = 0; house < houses; house++) {
            int asked = house;
            tell("claimCount", net.claimCount(house));
            tell("paidTo", net.paidTo(house));
            for (int hour = 1; hour <= hours; hour++) {
                int then = hour;
                tell("worthOf", net.worthOf(house, hour));
                ask("claim", () -> net.claim(asked, then));
            }
        }
    }

    /** The settings, and one hour in which much water runs through all gates. */
    private void tellWhatFollows() {
        for (int rule = rules; rule > 0; rule--) {
            tell("removeRule", net.removeRule(0));
        }
        for (int basin = 0; basin < basins; basin++) {
            tell("setHand", net.setHand(basin, 10));
            tell("setRain", net.setRain(basin, 300));
        }
        ask("pass", () -> net.pass(1));
        tellWater();
    }
}
