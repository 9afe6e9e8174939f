/** Promises 39 to 41: trials of openings on the rain that has fallen. */
final class TrialTest {
    private static final Check CHECK = new Check();
    private static final Class<IndexOutOfBoundsException> INDEX = IndexOutOfBoundsException.class;
    private static final Class<IllegalArgumentException> ARGUMENT = IllegalArgumentException.class;

    public static void main(String[] args) {
        floodedWith();
        floodedWithOpening();
        bestOpening();
        aTrialBeginsAnew();
        rulesInATrial();
        refusals();
        CHECK.end();
    }

    private static void floodedWith() {
        CHECK.same("of no basin", new StormBasin().floodedWith(), 0);
        StormBasin net = rained();
        CHECK.same("floodedSoFar", net.floodedSoFar(), 6);
        CHECK.same("with what was in force", net.floodedWith(), 6);
        net.setHand(0, 10);
        CHECK.same("with a hand opening", net.floodedWith(), 0);
        net.addRule(0, 0, true, 0, 0);
        CHECK.same("with a rule", net.floodedWith(), 6);
        net.removeRule(0);
        CHECK.same("without the rule", net.floodedWith(), 0);
        net.setHand(0, 4);
        CHECK.same("with a lower one", net.floodedWith(), 2);
        net.setRain(0, 500);
        CHECK.same("rain to come is not in it", net.floodedWith(), 2);
        CHECK.same("of two streets", pair().floodedWith(), 2);
        CHECK.same("twice the same", net.floodedWith(), 2);
        CHECK.same("the present stays", net.heldTotal(), 24);
        CHECK.same("the clock stays", net.clock(), 4);
        CHECK.same("what was flooded stays", net.floodedSoFar(), 6);
        CHECK.same("the river stays", net.riverTotal(), 0);
    }

    private static void floodedWithOpening() {
        StormBasin net = rained();
        net.addRule(0, 0, true, 0, 10);
        CHECK.same("shut", net.floodedWithOpening(0, 0), 6);
        CHECK.same("at 4", net.floodedWithOpening(0, 4), 2);
        CHECK.same("at 10", net.floodedWithOpening(0, 10), 0);
        StormBasin pair = pair();
        pair.addRule(1, 0, true, 0, 0);
        CHECK.same("the rules of other gates go on", pair.floodedWithOpening(0, 10), 4);
        pair.removeRule(0);
        CHECK.same("the hands of other gates go on", pair.floodedWithOpening(0, 10), 0);
        CHECK.same("water from above floods", pair.floodedWithOpening(0, 0), 2);
        CHECK.same("the hand stays", pair.setHand(0, 0), 0);
    }

    private static void bestOpening() {
        StormBasin net = rained();
        CHECK.same("lowest of the least", net.bestOpening(0), 5);
        StormBasin fresh = new StormBasin();
        fresh.addBasin(1, 1, 1, StormBasin.NONE, 0);
        CHECK.same("without hours", fresh.bestOpening(0), 0);
        StormBasin pair = pair();
        CHECK.same("above", pair.bestOpening(1), 4);
        CHECK.same("below", pair.bestOpening(0), 3);
        CHECK.same("none floods", rainedOnce(1).bestOpening(0), 0);
        CHECK.same("lowest but shut", rainedOnce(2).bestOpening(0), 1);
        CHECK.same("widest", rainedOnce(11).bestOpening(0), 10);
        CHECK.same("all flood", rainedOnce(12).bestOpening(0), 0);
    }

    /** A trial starts with an empty net and goes by the rain of each hour, not by that of now. */
    private static void aTrialBeginsAnew() {
        StormBasin net = rained();
        String first = net.floodedWith() + " " + net.floodedWithOpening(0, 5) + " " + net.bestOpening(0);
        String second = net.floodedWith() + " " + net.floodedWithOpening(0, 5) + " " + net.bestOpening(0);
        CHECK.same("trials after trials", second, first);
        net.setRain(0, 500);
        CHECK.same("fixed opening and rain to come", net.floodedWithOpening(0, 10), 0);
        CHECK.same("best opening and rain to come", net.bestOpening(0), 5);
        net.pass(1);
        CHECK.same("rain that has come", net.floodedWithOpening(0, 10), 2);
        CHECK.same("one hour more", net.floodedWith(), 8);
        CHECK.same("as it was", net.floodedSoFar(), 8);
        CHECK.same("best of what all flood in the end", net.bestOpening(0), 5);
    }

    /** A rule that comes later is tried on the hours before it, by the levels in the trial. */
    private static void rulesInATrial() {
        StormBasin net = rained();
        net.addRule(0, 0, true, 11, 10);
        CHECK.same("from 11 on", net.floodedWith(), 0);
        net.removeRule(0);
        net.addRule(0, 0, true, 19, 10);
        CHECK.same("from 19 on", net.floodedWith(), 6);
        net.removeRule(0);
        net.addRule(0, 0, true, 18, 10);
        CHECK.same("from 18 on", net.floodedWith(), 4);
        net.removeRule(0);
        net.addRule(0, 0, false, 11, 10);
        CHECK.same("below 11", net.floodedWith(), 0);
        net.addRule(0, 0, true, 0, 0);
        CHECK.same("a rule for the fixed gate does not count", net.floodedWithOpening(0, 10), 0);
        CHECK.same("nor for the best one", net.bestOpening(0), 5);
        CHECK.same("the rules stay", net.ruleCount(), 2);
    }

    private static void refusals() {
        CHECK.refused("opening of none", INDEX, StormBasin::new, x -> x.floodedWithOpening(0, 0));
        CHECK.refused("opening of basin 1", INDEX, TrialTest::rained, x -> x.floodedWithOpening(1, 11));
        CHECK.refused("opening of basin -1", INDEX, TrialTest::rained, x -> x.floodedWithOpening(-1, 0));
        CHECK.refused("opening 11", ARGUMENT, TrialTest::rained, x -> x.floodedWithOpening(0, 11));
        CHECK.refused("opening -1", ARGUMENT, TrialTest::rained, x -> x.floodedWithOpening(0, -1));
        CHECK.refused("best of none", INDEX, StormBasin::new, x -> x.bestOpening(0));
        CHECK.refused("best of basin 1", INDEX, TrialTest::rained, x -> x.bestOpening(1));
        CHECK.refused("best of basin -1", INDEX, TrialTest::rained, x -> x.bestOpening(-1));
    }

    /** Rain of 10, 8, 6 and 0 into a basin of 10 with two cells at 0 and a shut gate: 0, 2, 2 and 2 cells wet. */
    private static StormBasin rained() {
        StormBasin net = new StormBasin();
        net.addBasin(1, 10, 1, StormBasin.NONE, 0);
        net.addCell(0, 0);
        net.setRain(0, 10);
        net.pass(1);
        net.setRain(0, 8);
        net.pass(1);
        net.setRain(0, 6);
        net.pass(1);
        net.setRain(0, 0);
        net.pass(1);
        return net;
    }

    private static StormBasin rainedOnce(int rain) {
        StormBasin net = new StormBasin();
        net.addBasin(1, 1, 1, StormBasin.NONE, 0);
        net.setRain(0, rain);
        net.pass(1);
        return net;
    }

    /** Rain of 15 in three hours into the upper one of two basins, whose gate is open; the lower one is shut. */
    private static StormBasin pair() {
        StormBasin net = new StormBasin();
        net.addBasin(1, 30, 3, StormBasin.NONE, 0);
        net.addBasin(1, 10, 3, 0, 0);
        net.setHand(1, 10);
        net.setRain(1, 15);
        net.pass(3);
        net.setRain(1, 0);
        net.pass(1);
        return net;
    }
}
