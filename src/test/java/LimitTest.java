/** Promise 1, and the limits that the document names under "Terms" and in the promises: what is empty, what is full, and the step between. */
final class LimitTest {
    private static final Check CHECK = new Check();
    private static final Class<IllegalArgumentException> ARGUMENT = IllegalArgumentException.class;
    private static final Class<IllegalStateException> STATE = IllegalStateException.class;

    public static void main(String[] args) {
        aNewObjectIsEmpty();
        objectsAreApart();
        aNewBasinIsEmptyAndShutAndDry();
        basinsUpToSix();
        basinsAreAddedBeforeTheFirstHour();
        cellsUpToEight();
        cellsAreAddedBeforeTheFirstHour();
        rulesUpToTwelve();
        housesUpToTen();
        theClockGoesUpToSixty();
        hoursAtOnce();
        whatIsAllowedAfterTheLastHour();
        openingsOfAGate();
        capacitiesAndLevels();
        theMostWater();
        CHECK.end();
    }

    private static void aNewObjectIsEmpty() {
        StormBasin net = new StormBasin();
        CHECK.same("new basinCount", net.basinCount(), 0);
        CHECK.same("new ruleCount", net.ruleCount(), 0);
        CHECK.same("new houseCount", net.houseCount(), 0);
        CHECK.same("new clock", net.clock(), 0);
        CHECK.same("new rainTotal", net.rainTotal(), 0);
        CHECK.same("new riverTotal", net.riverTotal(), 0);
        CHECK.same("new heldTotal", net.heldTotal(), 0);
        CHECK.same("new isBalanced", net.isBalanced(), true);
        CHECK.same("new floodedSoFar", net.floodedSoFar(), 0);
        CHECK.same("new floodedWith", net.floodedWith(), 0);
        CHECK.same("new paidTotal", net.paidTotal(), 0L);
        CHECK.same("new line", Check.lineOf(net), "");
        CHECK.thrown("new meanPayment", ArithmeticException.class, net::meanPayment);
        CHECK.thrown("new pass", STATE, () -> net.pass(1));
    }

    private static void objectsAreApart() {
        StormBasin used = Nets.housesThatClaimed();
        used.addRule(0, 0, true, 1, 1);
        used.writeRule(0);
        StormBasin net = new StormBasin();
        CHECK.same("basins of another", net.basinCount(), 0);
        CHECK.same("rules of another", net.ruleCount(), 0);
        CHECK.same("houses of another", net.houseCount(), 0);
        CHECK.same("clock of another", net.clock(), 0);
        CHECK.same("line of another", Check.lineOf(net), "");
        net.addBasin(1, 1, 1, StormBasin.NONE, 0);
        CHECK.same("water of another", net.volumeOf(0), 0);
        CHECK.same("its own basins", used.basinCount(), 2);
        CHECK.same("its own clock", used.clock(), 3);
    }

    private static void aNewBasinIsEmptyAndShutAndDry() {
        StormBasin net = Nets.one();
        CHECK.same("volume of a new basin", net.volumeOf(0), 0);
        CHECK.same("level of a new basin", net.levelOf(0), 0);
        CHECK.same("street of a new basin", net.streetVolume(0), 0);
        CHECK.same("cells of a new basin", net.cellCount(0), 1);
        CHECK.same("wet cells of a new basin", net.wetCells(0), 0);
        CHECK.same("depth in a new basin", net.depthAt(0, 0), 0);
        CHECK.same("depth by pouring in a new basin", net.depthByPouring(0, 0), 0);
        CHECK.same("wet hours of a new basin", net.wetHours(0, 0), 0);
        CHECK.same("opening of a new basin", net.openingNow(0), 0);
        CHECK.same("best opening before any hour", net.bestOpening(0), 0);
        CHECK.same("trial before any hour", net.floodedWithOpening(0, 10), 0);
        net.pass(1);
        CHECK.same("no rain in a new basin", net.rainTotal(), 0);
        CHECK.same("hand opening of a new basin", net.setHand(0, 1), 0);
        CHECK.same("rain of a new basin", net.setRain(0, 1), 0);
    }

    private static void basinsUpToSix() {
        StormBasin net = new StormBasin();
        for (int basin = 0; basin < 6; basin++) {
            CHECK.same("basins before", net.basinCount(), basin);
            CHECK.same("addBasin", net.addBasin(1, 1, 1, basin - 1, 0), basin);
        }
        CHECK.thrown("basin 6", STATE, () -> net.addBasin(1, 1, 1, 5, 0));
        CHECK.same("basins after", net.basinCount(), 6);
        CHECK.refused("seventh basin", STATE, Nets::six, x -> x.addBasin(1, 1, 1, 0, 0));
    }

    private static void basinsAreAddedBeforeTheFirstHour() {
        StormBasin net = Nets.one();
        net.setHand(0, 1);
        net.setRain(0, 1);
        net.addRule(0, 0, true, 1, 1);
        net.addHouse(0, 0, 1, 1);
        CHECK.same("basin after all but an hour", net.addBasin(1, 1, 1, 0, 0), 1);
        CHECK.refused("basin after an hour", STATE, Nets::onePassed, x -> x.addBasin(1, 1, 1, 0, 0));
        CHECK.refused("basin after all hours", STATE, Nets::lastHour, x -> x.addBasin(1, 1, 1, 0, 0));
        CHECK.thrown("a refused hour is none", ARGUMENT, () -> net.pass(25));
        CHECK.same("basin after a refused hour", net.addBasin(1, 1, 1, 0, 0), 2);
    }

    private static void cellsUpToEight() {
        StormBasin net = Nets.six();
        for (int cells = 2; cells <= 8; cells++) {
            CHECK.same("addCell", net.addCell(3, 31 - cells), cells);
            CHECK.same("cellCount", net.cellCount(3), cells);
        }
        CHECK.thrown("ninth cell", STATE, () -> net.addCell(3, 0));
        CHECK.same("cells after", net.cellCount(3), 8);
        CHECK.same("another street has room", net.addCell(4, 0), 2);
        CHECK.refused("cell 8", STATE, Nets::eightCells, x -> x.addCell(0, 0));
    }

    private static void cellsAreAddedBeforeTheFirstHour() {
        CHECK.refused("cell after an hour", STATE, Nets::onePassed, x -> x.addCell(0, 0));
        CHECK.refused("cell after all hours", STATE, Nets::lastHour, x -> x.addCell(0, 0));
        StormBasin net = Nets.one();
        net.addHouse(0, 0, 1, 1);
        net.setRain(0, 500);
        CHECK.same("cell after all but an hour", net.addCell(0, 0), 2);
    }

    private static void rulesUpToTwelve() {
        StormBasin net = Nets.two();
        for (int rules = 1; rules <= 12; rules++) {
            CHECK.same("addRule", net.addRule(rules % 2, 0, true, 0, 1), rules);
        }
        CHECK.thrown("rule 12", STATE, () -> net.addRule(0, 0, true, 0, 1));
        CHECK.same("rules after", net.ruleCount(), 12);
        CHECK.same("first of twelve", net.removeRule(0), 11);
        CHECK.same("room for one", net.addRule(0, 0, true, 0, 2), 12);
        CHECK.thrown("rule 12 again", STATE, () -> net.addRule(0, 0, true, 0, 1));
        CHECK.same("last of twelve", net.removeRule(11), 11);
        for (int left = 10; left >= 0; left--) {
            CHECK.same("removeRule", net.removeRule(left / 2), left);
        }
        CHECK.thrown("remove of none", IndexOutOfBoundsException.class, () -> net.removeRule(0));
        CHECK.same("rules at the end", net.ruleCount(), 0);
    }

    private static void housesUpToTen() {
        StormBasin net = Nets.one();
        for (int house = 0; house < 10; house++) {
            CHECK.same("houses before", net.houseCount(), house);
            CHECK.same("addHouse", net.addHouse(0, 0, 1, 0), house);
        }
        CHECK.thrown("house 10", STATE, () -> net.addHouse(0, 0, 1, 0));
        CHECK.same("houses after", net.houseCount(), 10);
        CHECK.same("houses without basins", new StormBasin().houseCount(), 0);
    }

    private static void theClockGoesUpToSixty() {
        StormBasin net = Nets.one();
        net.setRain(0, 1);
        for (int hour = 1; hour <= 60; hour++) {
            CHECK.same("pass", net.pass(1), hour);
            CHECK.same("clock", net.clock(), hour);
        }
        CHECK.thrown("hour 61", STATE, () -> net.pass(1));
        CHECK.same("clock at its end", net.clock(), 60);
        CHECK.same("rain of 60 hours", net.rainTotal(), 60);
        CHECK.same("depth at the end of the last hour", net.depthThen(0, 0, 60), 25);
        CHECK.thrown("no such hour", ARGUMENT, () -> net.depthThen(0, 0, 61));
        for (int clock = 36; clock < 60; clock++) {
            int left = 60 - clock;
            StormBasin late = Nets.passed(Nets.one(), clock);
            if (left < 24) {
                CHECK.thrown("an hour beyond 60", STATE, () -> late.pass(left + 1));
                CHECK.same("clock stays", late.clock(), clock);
            }
            CHECK.same("all hours that are left", late.pass(left), 60);
        }
        CHECK.refused("an hour too many at 37", STATE, () -> Nets.passed(Nets.one(), 37), x -> x.pass(24));
        CHECK.refused("an hour too many at 59", STATE, () -> Nets.passed(Nets.one(), 59), x -> x.pass(2));
        CHECK.refused("an hour too many at 60", STATE, Nets::lastHour, x -> x.pass(1));
    }

    private static void hoursAtOnce() {
        StormBasin once = Nets.flooded();
        StormBasin singly = Nets.flooded();
        CHECK.same("24 hours at once", once.pass(24), 27);
        CHECK.same("24 hours singly", Nets.passed(singly, 24).clock(), 27);
        CHECK.same("the same water", Portrait.of(once), Portrait.of(singly));
    }

    private static void whatIsAllowedAfterTheLastHour() {
        StormBasin net = Nets.lastHour();
        CHECK.same("setHand at the end", net.setHand(0, 0), 1);
        CHECK.same("setRain at the end", net.setRain(0, 0), 3);
        CHECK.same("addRule at the end", net.addRule(0, 0, false, 1, 1), 1);
        CHECK.same("removeRule at the end", net.removeRule(0), 0);
        CHECK.same("addHouse at the end", net.addHouse(0, 0, 1, 30), 0);
        CHECK.same("claim of the last hour", net.claim(0, 60), 25);
        CHECK.same("claim of the first wet hour", net.claim(0, 36), 1);
        CHECK.thrown("claim of the last dry hour", UnsupportedOperationException.class, () -> net.claim(0, 35));
        CHECK.thrown("claim of the hour 61", ARGUMENT, () -> net.claim(0, 61));
    }

    private static void openingsOfAGate() {
        StormBasin net = new StormBasin();
        net.addBasin(50, 40, 20, StormBasin.NONE, 0);
        net.setRain(0, 500);
        net.pass(1);
        CHECK.same("a gate at 0", net.riverTotal(), 0);
        net.setHand(0, 10);
        net.pass(1);
        CHECK.same("the widest gate at 10", net.riverTotal(), 200);
        CHECK.same("what is left", net.volumeOf(0), 800);
        net.addRule(0, 0, true, 0, 0);
        net.pass(1);
        CHECK.same("a rule at 0", net.riverTotal(), 200);
        net.addRule(0, 0, true, 26, 10);
        net.pass(1);
        CHECK.same("a rule at 10", net.riverTotal(), 400);
        StormBasin narrow = new StormBasin();
        narrow.addBasin(1, 1, 0, StormBasin.NONE, 0);
        narrow.setHand(0, 10);
        narrow.setRain(0, 1);
        narrow.pass(1);
        CHECK.same("a gate of the width 0", narrow.riverTotal(), 0);
        CHECK.same("a full basin behind it", narrow.volumeOf(0), 1);
    }

    private static void capacitiesAndLevels() {
        StormBasin least = new StormBasin();
        least.addBasin(1, 1, 0, StormBasin.NONE, 0);
        CHECK.same("least capacity", least.capacityOf(0), 1);
        StormBasin net = new StormBasin();
        net.addBasin(50, 40, 0, StormBasin.NONE, 0);
        net.addRule(0, 0, true, 40, 1);
        net.addRule(0, 0, false, 40, 2);
        CHECK.same("greatest capacity", net.capacityOf(0), 2000);
        CHECK.same("level of an empty basin", net.levelOf(0), 0);
        net.setRain(0, 49);
        net.pass(1);
        CHECK.same("level one short of an area", net.levelOf(0), 0);
        net.setRain(0, 1);
        net.pass(1);
        CHECK.same("level of an area", net.levelOf(0), 1);
        net.setRain(0, 500);
        net.pass(3);
        net.setRain(0, 449);
        net.pass(1);
        CHECK.same("volume one short of the capacity", net.volumeOf(0), 1999);
        CHECK.same("level one short of the capacity", net.levelOf(0), 39);
        CHECK.same("rule from 40 at 39", net.doesHold(0), false);
        CHECK.same("opening at 39", net.openingNow(0), 2);
        net.setRain(0, 1);
        net.pass(1);
        CHECK.same("volume at the capacity", net.volumeOf(0), 2000);
        CHECK.same("level at the capacity", net.levelOf(0), 40);
        CHECK.same("street at the capacity", net.streetVolume(0), 0);
        CHECK.same("rule from 40 at 40", net.doesHold(0), true);
        CHECK.same("rule below 40 at 40", net.doesHold(1), false);
        CHECK.same("opening at 40", net.openingNow(0), 1);
        net.pass(1);
        CHECK.same("volume beyond the capacity", net.volumeOf(0), 2000);
        CHECK.same("level beyond the capacity", net.levelOf(0), 40);
        CHECK.same("street beyond the capacity", net.streetVolume(0), 1);
    }

    /** All the rain that can be falls into a net whose gates lead it all to one street of one cell. */
    private static void theMostWater() {
        StormBasin net = new StormBasin();
        for (int basin = 0; basin < 6; basin++) {
            net.addBasin(50, 40, basin == 0 ? 0 : 20, basin == 0 ? StormBasin.NONE : 0, 0);
            net.setRain(basin, 500);
            net.setHand(basin, 10);
        }
        net.addHouse(0, 0, 100, 5000);
        net.pass(24);
        net.pass(24);
        net.pass(12);
        CHECK.same("most rain", net.rainTotal(), 180000);
        CHECK.same("most held", net.heldTotal(), 180000);
        CHECK.same("most on a street", net.streetVolume(0), 88000);
        CHECK.same("most depth", net.depthAt(0, 0), 88000);
        CHECK.same("most depth by pouring", net.depthByPouring(0, 0), 88000);
        CHECK.same("most worth", net.worthOf(0, 60), 8800000);
        CHECK.same("most payment", net.claimWorst(0), 5000);
        CHECK.same("balanced", net.isBalanced(), true);
    }
}
