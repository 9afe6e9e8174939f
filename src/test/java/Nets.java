/** Nets with which several tests begin. */
final class Nets {
    private Nets() {
    }

    static StormBasin empty() {
        return new StormBasin();
    }

    static StormBasin one() {
        StormBasin net = new StormBasin();
        net.addBasin(5, 7, 2, StormBasin.NONE, 3);
        return net;
    }

    /** The basin 0 has three cells, the basin 1 above it has one. */
    static StormBasin two() {
        StormBasin net = one();
        net.addCell(0, 3);
        net.addCell(0, 4);
        net.addBasin(2, 3, 1, 0, 0);
        return net;
    }

    static StormBasin six() {
        StormBasin net = one();
        for (int below = 0; below < 5; below++) {
            net.addBasin(50, 40, 20, below, 30);
        }
        return net;
    }

    static StormBasin sixPassed() {
        return passed(six(), 1);
    }

    static StormBasin eightCells() {
        StormBasin net = one();
        for (int cell = 1; cell < 8; cell++) {
            net.addCell(0, cell);
        }
        return net;
    }

    static StormBasin eightCellsPassed() {
        return passed(eightCells(), 1);
    }

    static StormBasin onePassed() {
        return passed(one(), 1);
    }

    static StormBasin oneRule() {
        StormBasin net = two();
        net.addRule(1, 0, true, 3, 4);
        return net;
    }

    static StormBasin twelveRules() {
        StormBasin net = two();
        for (int rule = 0; rule < 12; rule++) {
            net.addRule(rule % 2, rule % 3 % 2, rule % 4 < 2, rule, 11 - rule < 10 ? 11 - rule : 10);
        }
        return net;
    }

    static StormBasin written() {
        StormBasin net = oneRule();
        net.writeRule(0);
        return net;
    }

    /** The net of two basins after three hours, each of which left all cells wet. */
    static StormBasin flooded() {
        StormBasin net = two();
        net.setRain(0, 50);
        net.setRain(1, 10);
        return passed(net, 3);
    }

    static StormBasin housesWithoutHours() {
        return withHouses(two());
    }

    static StormBasin housesInWetHours() {
        return withHouses(flooded());
    }

    static StormBasin housesInDryHours() {
        return withHouses(passed(two(), 3));
    }

    /** Both houses have claimed all hours. */
    static StormBasin housesThatClaimed() {
        StormBasin net = housesInWetHours();
        for (int hour = 1; hour <= 3; hour++) {
            net.claim(0, hour);
            net.claim(1, hour);
        }
        return net;
    }

    static StormBasin tenHouses() {
        StormBasin net = two();
        for (int house = 0; house < 10; house++) {
            net.addHouse(house % 2, 0, 1 + house, house);
        }
        return net;
    }

    /** The clock has come to its end. */
    static StormBasin lastHour() {
        StormBasin net = one();
        net.setHand(0, 1);
        net.setRain(0, 3);
        return passed(net, 60);
    }

    static StormBasin passed(StormBasin net, int hours) {
        for (int hour = 0; hour < hours; hour++) {
            net.pass(1);
        }
        return net;
    }

    private static StormBasin withHouses(StormBasin net) {
        net.addHouse(0, 1, 4, 100);
        net.addHouse(1, 0, 7, 5000);
        return net;
    }
}
