/** Promises 13 to 22: rain, hours, and where the water is. */
final class WaterTest {
    private static final Check CHECK = new Check();
    private static final Class<IndexOutOfBoundsException> INDEX = IndexOutOfBoundsException.class;
    private static final Class<IllegalArgumentException> ARGUMENT = IllegalArgumentException.class;
    private static final Class<IllegalStateException> STATE = IllegalStateException.class;

    public static void main(String[] args) {
        setRain();
        pass();
        rainIsFromNowOn();
        openingsAreFoundAfterTheRain();
        openingsAreFoundBeforeAnyWaterGoes();
        aRuleHoldsAtItsLevelOrBelowIt();
        aLevelIsThatOfTheBasinAlone();
        aGateLetsThroughNoMoreThanThereIs();
        gatesRunAtTheSameTime();
        aChainTakesAnHourForEachBasin();
        severalFlowIntoOne();
        onlyWhatIsBeyondGoesOntoTheStreet();
        streetsTakeAndGiveBack();
        aStreetGivesBackWhatThereIsAndWhatFits();
        volumesAndLevels();
        totals();
        CHECK.end();
    }

    private static void setRain() {
        StormBasin net = one(2, 40, 3);
        CHECK.same("first rain", net.setRain(0, 500), 0);
        CHECK.same("second rain", net.setRain(0, 7), 500);
        net.pass(2);
        CHECK.same("rain in two hours", net.rainTotal(), 14);
        CHECK.same("third rain", net.setRain(0, 0), 7);
        net.pass(1);
        CHECK.same("dry hour", net.rainTotal(), 14);
        CHECK.refused("setRain of none", INDEX, StormBasin::new, x -> x.setRain(0, 1));
        CHECK.refused("setRain basin before rain", INDEX, WaterTest::wet, x -> x.setRain(1, 501));
        CHECK.refused("setRain basin -1", INDEX, WaterTest::wet, x -> x.setRain(-1, 1));
        CHECK.refused("setRain 501", ARGUMENT, WaterTest::wet, x -> x.setRain(0, 501));
        CHECK.refused("setRain -1", ARGUMENT, WaterTest::wet, x -> x.setRain(0, -1));
    }

    private static void pass() {
        StormBasin net = one(1, 1, 1);
        CHECK.same("clock at first", net.clock(), 0);
        CHECK.same("pass 1", net.pass(1), 1);
        CHECK.same("pass 24", net.pass(24), 25);
        CHECK.same("pass 24 again", net.pass(24), 49);
        CHECK.same("clock", net.clock(), 49);
        CHECK.thrown("too far by one", STATE, () -> net.pass(12));
        CHECK.same("up to 60", net.pass(11), 60);
        CHECK.thrown("past 60", STATE, () -> net.pass(1));
        CHECK.thrown("hours before the clock", ARGUMENT, () -> net.pass(25));
        CHECK.refused("pass without basin", STATE, StormBasin::new, x -> x.pass(1));
        CHECK.refused("pass 0 without basin", ARGUMENT, StormBasin::new, x -> x.pass(0));
        CHECK.refused("pass 0", ARGUMENT, WaterTest::wet, x -> x.pass(0));
        CHECK.refused("pass 25", ARGUMENT, WaterTest::wet, x -> x.pass(25));
        CHECK.refused("pass -1", ARGUMENT, WaterTest::wet, x -> x.pass(-1));
        CHECK.refused("pass most", ARGUMENT, WaterTest::wet, x -> x.pass(Integer.MAX_VALUE));
    }

    private static void openingsAreFoundAfterTheRain() {
        StormBasin net = one(2, 10, 3);
        net.addRule(0, 0, true, 5, 2);
        net.setRain(0, 10);
        net.pass(1);
        CHECK.same("volume after the rule", net.volumeOf(0), 4);
        CHECK.same("river after the rule", net.riverTotal(), 6);
        CHECK.same("present level", net.levelOf(0), 2);
        CHECK.same("present opening", net.openingNow(0), 0);
        StormBasin high = one(1, 10, 1);
        high.addRule(0, 0, true, 15, 5);
        high.setRain(0, 15);
        high.pass(1);
        CHECK.same("level above the depth", high.riverTotal(), 5);
        CHECK.same("nothing beyond after it", high.streetVolume(0), 0);
    }

    private static void rainIsFromNowOn() {
        StormBasin net = one(2, 40, 0);
        net.pass(1);
        net.setRain(0, 5);
        CHECK.same("rain before its first hour", net.rainTotal(), 0);
        CHECK.same("volume before its first hour", net.volumeOf(0), 0);
        net.pass(1);
        CHECK.same("rain in its first hour", net.rainTotal(), 5);
        net.addRule(0, 0, true, 0, 0);
        net.pass(1);
        CHECK.same("rain goes on", net.rainTotal(), 10);
    }

    private static void openingsAreFoundBeforeAnyWaterGoes() {
        StormBasin net = one(1, 30, 1);
        net.addBasin(1, 30, 1, 0, 0);
        net.addRule(0, 1, true, 10, 5);
        net.addRule(1, 0, false, 20, 10);
        net.setRain(0, 19);
        net.setRain(1, 10);
        net.pass(1);
        CHECK.same("by the level of the basin above, before its water goes", net.riverTotal(), 5);
        CHECK.same("by the level of the basin below, before water comes", net.volumeOf(1), 0);
        CHECK.same("what is below", net.volumeOf(0), 24);
    }

    private static void aRuleHoldsAtItsLevelOrBelowIt() {
        for (int rain = 7; rain <= 10; rain++) {
            StormBasin from = one(2, 30, 1);
            from.addRule(0, 0, true, 4, 1);
            from.setRain(0, rain);
            from.pass(1);
            CHECK.same("from 4 on at " + rain + " / 2", from.riverTotal(), rain < 8 ? 0 : 1);
            StormBasin below = one(2, 30, 1);
            below.addRule(0, 0, false, 4, 1);
            below.setRain(0, rain);
            below.pass(1);
            CHECK.same("below 4 at " + rain + " / 2", below.riverTotal(), rain < 8 ? 1 : 0);
        }
    }

    private static void aLevelIsThatOfTheBasinAlone() {
        StormBasin net = one(1, 3, 0);
        net.addRule(0, 0, true, 4, 1);
        net.setRain(0, 9);
        net.pass(1);
        CHECK.same("level beside a wet street", net.levelOf(0), 3);
        CHECK.same("street", net.streetVolume(0), 6);
        CHECK.same("rule beside a wet street", net.doesHold(0), false);
    }

    private static void aGateLetsThroughNoMoreThanThereIs() {
        for (int rain = 0; rain <= 12; rain++) {
            StormBasin net = one(1, 20, 2);
            net.setHand(0, 5);
            net.setRain(0, rain);
            net.pass(1);
            CHECK.same("river of " + rain, net.riverTotal(), rain < 10 ? rain : 10);
            CHECK.same("basin of " + rain, net.volumeOf(0), rain < 10 ? 0 : rain - 10);
        }
        StormBasin net = one(1, 20, 2);
        net.addBasin(1, 20, 1, 0, 0);
        net.setHand(0, 5);
        net.setHand(1, 4);
        net.setRain(1, 4);
        net.pass(1);
        CHECK.same("what comes in an hour does not go in it", net.riverTotal(), 0);
        CHECK.same("it stays below", net.volumeOf(0), 4);
    }

    private static void aChainTakesAnHourForEachBasin() {
        StormBasin net = one(1, 20, 1);
        for (int below = 0; below < 5; below++) {
            net.addBasin(1, 20, 1, below, 0);
        }
        for (int basin = 0; basin < 6; basin++) {
            net.setHand(basin, 10);
        }
        net.setRain(5, 10);
        net.pass(1);
        net.setRain(5, 0);
        CHECK.same("after the first hour", net.volumeOf(4), 10);
        for (int basin = 3; basin >= 0; basin--) {
            net.pass(1);
            CHECK.same("came into basin", net.volumeOf(basin), 10);
            CHECK.same("gone from the basin above", net.volumeOf(basin + 1), 0);
            CHECK.same("not yet in the river", net.riverTotal(), 0);
        }
        net.pass(1);
        CHECK.same("in the river", net.riverTotal(), 10);
        CHECK.same("held", net.heldTotal(), 0);
    }

    private static void onlyWhatIsBeyondGoesOntoTheStreet() {
        for (int rain = 11; rain <= 14; rain++) {
            StormBasin net = one(3, 4, 0);
            net.setRain(0, rain);
            net.pass(1);
            CHECK.same("basin of 12 after " + rain, net.volumeOf(0), rain < 12 ? rain : 12);
            CHECK.same("street after " + rain, net.streetVolume(0), rain < 12 ? 0 : rain - 12);
        }
    }

    /** A basin of 10 with 5 on its street loses what goes through its gate, and the street gives back. */
    private static void aStreetGivesBackWhatThereIsAndWhatFits() {
        for (int gone = 0; gone <= 10; gone++) {
            StormBasin net = one(1, 10, 1);
            net.setRain(0, 15);
            net.pass(1);
            net.setRain(0, 0);
            net.setHand(0, gone);
            net.pass(1);
            CHECK.same("street after " + gone, net.streetVolume(0), gone < 5 ? 5 - gone : 0);
            CHECK.same("basin after " + gone, net.volumeOf(0), gone < 5 ? 10 : 15 - gone);
        }
        StormBasin again = one(1, 10, 1);
        again.setRain(0, 15);
        again.pass(2);
        CHECK.same("a full basin takes nothing back", again.streetVolume(0), 20);
    }

    private static void gatesRunAtTheSameTime() {
        StormBasin net = one(1, 20, 10);
        net.addBasin(1, 20, 5, 0, 0);
        net.setHand(0, 1);
        net.setHand(1, 1);
        net.setRain(1, 8);
        net.pass(1);
        CHECK.same("below after hour 1", net.volumeOf(0), 5);
        CHECK.same("above after hour 1", net.volumeOf(1), 3);
        CHECK.same("river after hour 1", net.riverTotal(), 0);
        net.pass(1);
        CHECK.same("below after hour 2", net.volumeOf(0), 5);
        CHECK.same("above after hour 2", net.volumeOf(1), 6);
        CHECK.same("river after hour 2", net.riverTotal(), 5);
    }

    private static void severalFlowIntoOne() {
        StormBasin net = one(1, 10, 0);
        net.addBasin(1, 20, 2, 0, 0);
        net.addBasin(1, 20, 3, 0, 0);
        net.setHand(1, 3);
        net.setHand(2, 3);
        net.setRain(1, 20);
        net.setRain(2, 20);
        net.pass(1);
        CHECK.same("from both", net.volumeOf(0), 10);
        CHECK.same("beyond from both", net.streetVolume(0), 5);
        CHECK.same("left in 1", net.volumeOf(1), 14);
        CHECK.same("left in 2", net.volumeOf(2), 11);
    }

    private static void streetsTakeAndGiveBack() {
        StormBasin full = one(1, 10, 1);
        full.setRain(0, 10);
        full.pass(1);
        CHECK.same("just full", full.volumeOf(0), 10);
        CHECK.same("nothing beyond", full.streetVolume(0), 0);
        StormBasin net = one(1, 10, 1);
        net.setRain(0, 15);
        net.pass(1);
        CHECK.same("full", net.volumeOf(0), 10);
        CHECK.same("beyond", net.streetVolume(0), 5);
        net.setRain(0, 0);
        net.setHand(0, 3);
        net.pass(1);
        CHECK.same("as much as the basin can hold", net.volumeOf(0), 10);
        CHECK.same("left on the street", net.streetVolume(0), 2);
        net.pass(1);
        CHECK.same("as much as there is", net.volumeOf(0), 9);
        CHECK.same("empty street", net.streetVolume(0), 0);
        StormBasin wide = one(1, 10, 20);
        wide.setRain(0, 15);
        wide.setHand(0, 10);
        wide.pass(1);
        CHECK.same("all of the rain leaves", wide.riverTotal(), 15);
        CHECK.same("nothing left", wide.heldTotal(), 0);
    }

    private static void volumesAndLevels() {
        StormBasin net = one(3, 10, 1);
        net.setRain(0, 8);
        net.pass(1);
        CHECK.same("volumeOf", net.volumeOf(0), 8);
        CHECK.same("levelOf is rounded down", net.levelOf(0), 2);
        net.setRain(0, 1);
        net.pass(1);
        CHECK.same("levelOf", net.levelOf(0), 3);
        CHECK.refused("volumeOf 1", INDEX, WaterTest::wet, x -> x.volumeOf(1));
        CHECK.refused("volumeOf -1", INDEX, WaterTest::wet, x -> x.volumeOf(-1));
        CHECK.refused("levelOf 1", INDEX, WaterTest::wet, x -> x.levelOf(1));
        CHECK.refused("levelOf -1", INDEX, WaterTest::wet, x -> x.levelOf(-1));
        CHECK.refused("streetVolume 1", INDEX, WaterTest::wet, x -> x.streetVolume(1));
        CHECK.refused("streetVolume -1", INDEX, WaterTest::wet, x -> x.streetVolume(-1));
    }

    private static void totals() {
        StormBasin net = one(1, 10, 2);
        CHECK.same("balanced without basin", new StormBasin().isBalanced(), true);
        net.addBasin(1, 5, 1, 0, 0);
        net.setHand(0, 2);
        net.setRain(0, 3);
        net.setRain(1, 10);
        net.pass(2);
        CHECK.same("rainTotal", net.rainTotal(), 26);
        CHECK.same("riverTotal", net.riverTotal(), 6);
        CHECK.same("heldTotal", net.heldTotal(), 20);
        CHECK.same("isBalanced", net.isBalanced(), true);
        StormBasin most = one(1, 1, 0);
        for (int below = 0; below < 5; below++) {
            most.addBasin(1, 1, 20, below, 0);
        }
        for (int basin = 0; basin < 6; basin++) {
            most.setRain(basin, 500);
            most.setHand(basin, 10);
        }
        most.pass(24);
        most.pass(24);
        most.pass(12);
        CHECK.same("most rain", most.rainTotal(), 180000);
        CHECK.same("all held", most.heldTotal(), 180000);
        CHECK.same("balanced at most", most.isBalanced(), true);
        CHECK.same("most depth", most.depthByPouring(0, 0), most.depthAt(0, 0));
    }

    private static StormBasin one(int area, int depth, int width) {
        StormBasin net = new StormBasin();
        net.addBasin(area, depth, width, StormBasin.NONE, 0);
        return net;
    }

    private static StormBasin wet() {
        StormBasin net = one(2, 3, 1);
        net.setHand(0, 1);
        net.setRain(0, 9);
        net.pass(3);
        return net;
    }
}
