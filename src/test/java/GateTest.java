/** Promises 7 to 12: hand openings, rules, and the openings that follow from them. */
final class GateTest {
    private static final Check CHECK = new Check();
    private static final Class<IndexOutOfBoundsException> INDEX = IndexOutOfBoundsException.class;
    private static final Class<IllegalArgumentException> ARGUMENT = IllegalArgumentException.class;
    private static final Class<IllegalStateException> STATE = IllegalStateException.class;

    public static void main(String[] args) {
        setHand();
        addRuleAnswers();
        addRuleRefuses();
        removeRule();
        doesHold();
        openingNow();
        CHECK.end();
    }

    private static void setHand() {
        StormBasin net = two();
        CHECK.same("first hand", net.setHand(1, 10), 0);
        CHECK.same("second hand", net.setHand(1, 3), 10);
        CHECK.same("hand of another", net.setHand(0, 4), 0);
        CHECK.same("hand opens", net.openingNow(1), 3);
        CHECK.refused("setHand no basin", INDEX, StormBasin::new, x -> x.setHand(0, 1));
        CHECK.refused("setHand basin before opening", INDEX, GateTest::two, x -> x.setHand(2, 11));
        CHECK.refused("setHand basin -1", INDEX, GateTest::two, x -> x.setHand(-1, 1));
        CHECK.refused("setHand 11", ARGUMENT, GateTest::two, x -> x.setHand(0, 11));
        CHECK.refused("setHand -1", ARGUMENT, GateTest::two, x -> x.setHand(0, -1));
    }

    private static void addRuleAnswers() {
        StormBasin net = two();
        CHECK.same("ruleCount at first", net.ruleCount(), 0);
        CHECK.same("least rule", net.addRule(0, 1, true, 0, 0), 1);
        CHECK.same("most rule", net.addRule(1, 0, false, 40, 10), 2);
        net.pass(1);
        CHECK.same("rule after an hour", net.addRule(1, 1, false, 4, 1), 3);
        CHECK.same("ruleCount", net.ruleCount(), 3);
        CHECK.same("twelve rules", twelve().ruleCount(), 12);
    }

    private static void addRuleRefuses() {
        CHECK.refused("rule of basin 2", INDEX, GateTest::two, x -> x.addRule(2, 0, true, 1, 1));
        CHECK.refused("rule of basin -1", INDEX, GateTest::two, x -> x.addRule(-1, 0, true, 1, 1));
        CHECK.refused("rule on basin 2", INDEX, GateTest::two, x -> x.addRule(0, 2, true, 41, 1));
        CHECK.refused("rule on basin -1", INDEX, GateTest::two, x -> x.addRule(0, -1, true, 1, 11));
        CHECK.refused("rule level 41", ARGUMENT, GateTest::two, x -> x.addRule(0, 0, true, 41, 1));
        CHECK.refused("rule level -1", ARGUMENT, GateTest::two, x -> x.addRule(0, 0, true, -1, 1));
        CHECK.refused("rule opening 11", ARGUMENT, GateTest::two, x -> x.addRule(0, 0, true, 1, 11));
        CHECK.refused("rule opening -1", ARGUMENT, GateTest::two, x -> x.addRule(0, 0, true, 1, -1));
        CHECK.refused("rule 13", STATE, GateTest::twelve, x -> x.addRule(0, 0, true, 1, 1));
        CHECK.refused("rule 13, level", ARGUMENT, GateTest::twelve, x -> x.addRule(0, 0, true, 41, 1));
        CHECK.refused("rule 13, basin", INDEX, GateTest::twelve, x -> x.addRule(0, 2, true, 1, 1));
    }

    private static void removeRule() {
        StormBasin net = two();
        net.addRule(0, 0, true, 0, 1);
        net.addRule(0, 0, true, 0, 2);
        net.addRule(0, 0, true, 0, 3);
        CHECK.same("remove the middle one", net.removeRule(1), 2);
        net.writeRule(0);
        CHECK.same("rule 0 stays", Check.lineOf(net), "0:0>0=1");
        net.writeRule(1);
        CHECK.same("rule 2 is rule 1", Check.lineOf(net), "0:0>0=3");
        CHECK.same("remove the last one", net.removeRule(1), 1);
        CHECK.same("opening of the one left", net.openingNow(0), 1);
        CHECK.same("remove the only one", net.removeRule(0), 0);
        CHECK.same("opening of none", net.openingNow(0), 0);
        CHECK.refused("remove of none", INDEX, GateTest::two, x -> x.removeRule(0));
        CHECK.refused("remove 12", INDEX, GateTest::twelve, x -> x.removeRule(12));
        CHECK.refused("remove -1", INDEX, GateTest::twelve, x -> x.removeRule(-1));
        StormBasin full = twelve();
        full.removeRule(0);
        CHECK.same("room for one again", full.addRule(0, 0, true, 1, 1), 12);
    }

    private static void doesHold() {
        StormBasin net = two();
        net.addRule(0, 1, true, 3, 1);
        net.addRule(0, 1, false, 3, 1);
        net.addRule(0, 1, true, 0, 1);
        net.addRule(0, 1, false, 0, 1);
        CHECK.same("from 3 at 0", net.doesHold(0), false);
        CHECK.same("below 3 at 0", net.doesHold(1), true);
        CHECK.same("from 0 at 0", net.doesHold(2), true);
        CHECK.same("below 0 at 0", net.doesHold(3), false);
        net.setRain(1, 5);
        net.pass(1);
        CHECK.same("from 3 at 5 / 2", net.doesHold(0), false);
        net.setRain(1, 1);
        net.pass(1);
        CHECK.same("from 3 at 6 / 2", net.doesHold(0), true);
        CHECK.same("below 3 at 6 / 2", net.doesHold(1), false);
        CHECK.refused("doesHold of none", INDEX, GateTest::two, x -> x.doesHold(0));
        CHECK.refused("doesHold 12", INDEX, GateTest::twelve, x -> x.doesHold(12));
        CHECK.refused("doesHold -1", INDEX, GateTest::twelve, x -> x.doesHold(-1));
    }

    private static void openingNow() {
        StormBasin net = two();
        net.setHand(0, 7);
        net.addRule(0, 1, true, 1, 5);
        CHECK.same("no rule holds", net.openingNow(0), 7);
        net.addRule(0, 1, false, 1, 4);
        net.addRule(1, 1, false, 1, 9);
        CHECK.same("one rule of the gate holds", net.openingNow(0), 4);
        net.addRule(0, 0, true, 0, 2);
        CHECK.same("the last of two", net.openingNow(0), 2);
        net.addRule(0, 0, true, 1, 10);
        CHECK.same("the last that holds", net.openingNow(0), 2);
        CHECK.same("the other gate", net.openingNow(1), 9);
        CHECK.refused("openingNow of none", INDEX, StormBasin::new, x -> x.openingNow(0));
        CHECK.refused("openingNow 2", INDEX, GateTest::two, x -> x.openingNow(2));
        CHECK.refused("openingNow -1", INDEX, GateTest::two, x -> x.openingNow(-1));
    }

    private static StormBasin two() {
        StormBasin net = new StormBasin();
        net.addBasin(2, 10, 2, StormBasin.NONE, 3);
        net.addBasin(2, 10, 2, 0, 3);
        return net;
    }

    private static StormBasin twelve() {
        StormBasin net = two();
        for (int rule = 0; rule < 12; rule++) {
            net.addRule(rule % 2, 0, true, rule, 1);
        }
        return net;
    }
}
