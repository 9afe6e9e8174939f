/** Promises 23 to 28: water on the cells of streets. */
final class StreetTest {
    private static final Check CHECK = new Check();
    private static final Class<IndexOutOfBoundsException> INDEX = IndexOutOfBoundsException.class;
    private static final Class<IllegalArgumentException> ARGUMENT = IllegalArgumentException.class;

    public static void main(String[] args) {
        depthsOfSmallVolumes();
        aCellIsWetFromItsFirstUnit();
        unitsGoByTheLowestNumber();
        cellsAreFilledAnewForEachVolume();
        depthsByBothWays();
        depthThen();
        hoursThatCount();
        wetCellsAndHours();
        refusals();
        CHECK.end();
    }

    private static void depthsOfSmallVolumes() {
        String[] due = {"0 0 0", "1 0 0", "1 0 1", "2 0 1", "2 0 2", "3 0 2", "3 1 2", "3 1 3", "4 1 3"};
        for (int volume = 0; volume < due.length; volume++) {
            StormBasin net = flooded(volume, 3, 5, 3);
            CHECK.same("volume", net.streetVolume(0), volume);
            CHECK.same("depths of " + volume, depths(net, 0), due[volume]);
        }
        CHECK.same("depths of 70", depths(flooded(70, 3, 5, 3), 0), "24 22 24");
        CHECK.same("one cell alone", depths(flooded(499, 30), 0), "499");
        CHECK.same("up to the greatest height", depths(flooded(30, 0, 30), 0), "30 0");
        CHECK.same("one more", depths(flooded(31, 0, 30), 0), "31 0");
        CHECK.same("two more", depths(flooded(32, 0, 30), 0), "31 1");
        CHECK.same("the lowest number first", depths(flooded(31, 30, 0), 0), "1 30");
    }

    /** The cells are at 2 and 5: the second one takes its first unit when the first one stands above it. */
    private static void aCellIsWetFromItsFirstUnit() {
        CHECK.same("dry street", flooded(0, 2, 5).wetCells(0), 0);
        CHECK.same("one unit", flooded(1, 2, 5).wetCells(0), 1);
        CHECK.same("as high as the second cell", flooded(3, 2, 5).wetCells(0), 1);
        CHECK.same("a unit above it", flooded(4, 2, 5).wetCells(0), 1);
        CHECK.same("first unit of the second cell", flooded(5, 2, 5).wetCells(0), 2);
        CHECK.same("dry at 4", flooded(4, 2, 5).wetHours(0, 1), 0);
        CHECK.same("wet at 5", flooded(5, 2, 5).wetHours(0, 1), 1);
        CHECK.same("sum at 4", flooded(4, 2, 5).floodedSoFar(), 1);
        CHECK.same("sum at 5", flooded(5, 2, 5).floodedSoFar(), 2);
        CHECK.same("the lower cell is the second", depths(flooded(3, 5, 2), 0), "0 3");
        CHECK.same("first unit of the first cell", depths(flooded(4, 5, 2), 0), "1 3");
    }

    private static void unitsGoByTheLowestNumber() {
        int[] heights = {7, 7, 7, 7, 7, 7, 7, 7};
        for (int volume = 0; volume <= 17; volume++) {
            StormBasin net = flooded(volume, heights);
            CHECK.same("wet cells of " + volume, net.wetCells(0), Math.min(volume, 8));
            for (int cell = 0; cell < 8; cell++) {
                CHECK.same("depth of " + volume, net.depthAt(0, cell), (volume + 7 - cell) / 8);
                CHECK.same("pouring of " + volume, net.depthByPouring(0, cell), (volume + 7 - cell) / 8);
            }
        }
    }

    /** A street that has sunk to a volume stands as one that has risen to it. */
    private static void cellsAreFilledAnewForEachVolume() {
        for (int volume = 0; volume <= 10; volume++) {
            StormBasin sunk = new StormBasin();
            sunk.addBasin(1, 10, 1, StormBasin.NONE, 2);
            sunk.addCell(0, 0);
            sunk.addCell(0, 3);
            sunk.setRain(0, 20);
            sunk.pass(1);
            sunk.setRain(0, 0);
            sunk.setHand(0, 10 - volume);
            sunk.pass(1);
            CHECK.same("sunk", sunk.streetVolume(0), volume);
            CHECK.same("sunk as risen", depths(sunk, 0), depths(flooded(volume, 2, 0, 3), 0));
            CHECK.same("wet as risen", sunk.wetCells(0), flooded(volume, 2, 0, 3).wetCells(0));
        }
    }

    /** An hour counts by its end alone, and only once it has passed. */
    private static void hoursThatCount() {
        StormBasin net = new StormBasin();
        net.addBasin(1, 10, 1, StormBasin.NONE, 0);
        net.setRain(0, 20);
        net.setHand(0, 10);
        CHECK.refused("hour 1 before it has passed", ARGUMENT, Nets::one, x -> x.depthThen(0, 0, 1));
        net.pass(1);
        CHECK.same("high in the hour, dry at its end", net.wetHours(0, 0), 0);
        CHECK.same("sum of a dry end", net.floodedSoFar(), 0);
        net.setRain(0, 11);
        net.pass(24);
        net.setRain(0, 0);
        net.pass(24);
        net.pass(11);
        CHECK.same("depth at the end of the first wet hour", net.depthThen(0, 0, 2), 1);
        CHECK.same("depth at the end of the last wet hour", net.depthThen(0, 0, 27), 4);
        CHECK.same("depth at the end of the first dry hour", net.depthThen(0, 0, 28), 0);
        CHECK.same("hours that were wet", net.wetHours(0, 0), 26);
        CHECK.same("sum over the hours", net.floodedSoFar(), 26);
        CHECK.same("depth at the end of the last hour", net.depthThen(0, 0, 60), 0);
        CHECK.thrown("hour 61", ARGUMENT, () -> net.depthThen(0, 0, 61));
    }

    private static void depthsByBothWays() {
        int[][] streets = {{0}, {30, 0}, {7, 7, 7}, {0, 1, 2, 3, 4, 5, 6, 7}, {30, 2, 30, 0, 5, 5, 17, 2}, {9, 0, 4, 9, 4}};
        for (int[] heights : streets) {
            for (int volume = 0; volume < 300; volume++) {
                depthsAreThoseOfPouring(flooded(volume, heights), heights, volume);
            }
        }
    }

    private static void depthsAreThoseOfPouring(StormBasin net, int[] heights, int volume) {
        int[] due = new int[heights.length];
        for (int unit = 0; unit < volume; unit++) {
            int least = 0;
            for (int cell = 1; cell < due.length; cell++) {
                least = heights[cell] + due[cell] < heights[least] + due[least] ? cell : least;
            }
            due[least]++;
        }
        int wet = 0;
        for (int cell = 0; cell < due.length; cell++) {
            CHECK.same("depthAt", net.depthAt(0, cell), due[cell]);
            CHECK.same("depthByPouring", net.depthByPouring(0, cell), due[cell]);
            CHECK.same("depthThen", net.depthThen(0, cell, 1), due[cell]);
            CHECK.same("wetHours", net.wetHours(0, cell), due[cell] > 0 ? 1 : 0);
            wet += due[cell] > 0 ? 1 : 0;
        }
        CHECK.same("wetCells", net.wetCells(0), wet);
        CHECK.same("floodedSoFar", net.floodedSoFar(), wet);
    }

    private static void depthThen() {
        StormBasin net = swelling();
        CHECK.same("hour 1", net.depthThen(0, 0, 1), 0);
        CHECK.same("hour 2", net.depthThen(0, 0, 2), 2);
        CHECK.same("hour 3", net.depthThen(0, 0, 3), 5);
        CHECK.same("hour 4", net.depthThen(0, 0, 4), 3);
        CHECK.same("hour 4, cell 1", net.depthThen(0, 1, 4), 1);
        CHECK.same("now", net.depthAt(0, 0), 3);
    }

    private static void wetCellsAndHours() {
        StormBasin net = swelling();
        CHECK.same("wetCells", net.wetCells(0), 2);
        CHECK.same("wetCells of a dry street", net.wetCells(1), 0);
        CHECK.same("wetHours 0", net.wetHours(0, 0), 3);
        CHECK.same("wetHours 1", net.wetHours(0, 1), 2);
        CHECK.same("floodedSoFar", net.floodedSoFar(), 5);
        net.setHand(0, 10);
        net.pass(2);
        CHECK.same("wetCells after it has run off", net.wetCells(0), 0);
        CHECK.same("wetHours after it has run off", net.wetHours(0, 0), 3);
        CHECK.same("floodedSoFar after it has run off", net.floodedSoFar(), 5);
        StormBasin both = flooded(3, 0, 0);
        CHECK.same("wetHours before the first", both.wetHours(0, 0), 1);
        StormBasin fresh = new StormBasin();
        CHECK.same("floodedSoFar of a new net", fresh.floodedSoFar(), 0);
        fresh.addBasin(1, 1, 1, StormBasin.NONE, 0);
        fresh.addBasin(1, 1, 1, 0, 0);
        fresh.setRain(0, 2);
        fresh.setRain(1, 2);
        CHECK.same("wetHours without hours", fresh.wetHours(0, 0), 0);
        fresh.pass(3);
        CHECK.same("hour 1 of the second street", fresh.depthThen(1, 0, 1), 1);
        CHECK.same("wetHours of the second street", fresh.wetHours(1, 0), 3);
        CHECK.same("floodedSoFar of two streets", fresh.floodedSoFar(), 6);
    }

    private static void refusals() {
        CHECK.refused("depthAt of none", INDEX, StormBasin::new, x -> x.depthAt(0, 0));
        CHECK.refused("depthAt basin", INDEX, StreetTest::swelling, x -> x.depthAt(2, 0));
        CHECK.refused("depthAt basin -1", INDEX, StreetTest::swelling, x -> x.depthAt(-1, 0));
        CHECK.refused("depthAt cell", INDEX, StreetTest::swelling, x -> x.depthAt(0, 2));
        CHECK.refused("depthAt cell -1", INDEX, StreetTest::swelling, x -> x.depthAt(0, -1));
        CHECK.refused("depthByPouring basin", INDEX, StreetTest::swelling, x -> x.depthByPouring(2, 0));
        CHECK.refused("depthByPouring basin -1", INDEX, StreetTest::swelling, x -> x.depthByPouring(-1, 0));
        CHECK.refused("depthByPouring cell", INDEX, StreetTest::swelling, x -> x.depthByPouring(1, 1));
        CHECK.refused("depthByPouring cell -1", INDEX, StreetTest::swelling, x -> x.depthByPouring(0, -1));
        CHECK.refused("depthThen basin", INDEX, StreetTest::swelling, x -> x.depthThen(2, 0, 0));
        CHECK.refused("depthThen cell", INDEX, StreetTest::swelling, x -> x.depthThen(0, 2, 5));
        CHECK.refused("depthThen hour 0", ARGUMENT, StreetTest::swelling, x -> x.depthThen(0, 0, 0));
        CHECK.refused("depthThen hour 5", ARGUMENT, StreetTest::swelling, x -> x.depthThen(0, 0, 5));
        CHECK.refused("wetCells 2", INDEX, StreetTest::swelling, x -> x.wetCells(2));
        CHECK.refused("wetCells -1", INDEX, StreetTest::swelling, x -> x.wetCells(-1));
        CHECK.refused("wetHours basin", INDEX, StreetTest::swelling, x -> x.wetHours(2, 0));
        CHECK.refused("wetHours cell", INDEX, StreetTest::swelling, x -> x.wetHours(0, 2));
        CHECK.refused("wetHours cell -1", INDEX, StreetTest::swelling, x -> x.wetHours(0, -1));
    }

    /** A net after one hour, with this volume on the street of the basin 0. */
    private static StormBasin flooded(int volume, int... heights) {
        StormBasin net = new StormBasin();
        net.addBasin(1, 1, 0, StormBasin.NONE, heights[0]);
        for (int cell = 1; cell < heights.length; cell++) {
            net.addCell(0, heights[cell]);
        }
        net.setRain(0, volume + 1);
        net.pass(1);
        return net;
    }

    /** Volumes 0, 2, 7 and 4 on the street at the ends of the hours, and a dry street above. */
    private static StormBasin swelling() {
        StormBasin net = new StormBasin();
        net.addBasin(1, 10, 1, StormBasin.NONE, 1);
        net.addCell(0, 3);
        net.addBasin(1, 10, 1, 0, 0);
        net.setRain(0, 10);
        net.pass(1);
        net.setRain(0, 2);
        net.pass(1);
        net.setRain(0, 5);
        net.pass(1);
        net.setRain(0, 0);
        net.setHand(0, 3);
        net.pass(1);
        return net;
    }

    private static String depths(StormBasin net, int basin) {
        StringBuilder text = new StringBuilder();
        for (int cell = 0; cell < net.cellCount(basin); cell++) {
            text.append(cell == 0 ? "" : " ").append(net.depthAt(basin, cell));
        }
        return text.toString();
    }
}
