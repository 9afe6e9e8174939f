/** Promises 2 to 6: a net is built. */
final class BuildTest {
    private static final Check CHECK = new Check();
    private static final Class<IndexOutOfBoundsException> INDEX = IndexOutOfBoundsException.class;
    private static final Class<IllegalArgumentException> ARGUMENT = IllegalArgumentException.class;
    private static final Class<IllegalStateException> STATE = IllegalStateException.class;

    public static void main(String[] args) {
        addBasinAnswers();
        addBasinRefuses();
        addCellAnswers();
        addCellRefuses();
        countsAndCapacity();
        CHECK.end();
    }

    private static void addBasinAnswers() {
        StormBasin net = new StormBasin();
        CHECK.same("least", net.addBasin(1, 1, 0, StormBasin.NONE, 0), 0);
        CHECK.same("most", net.addBasin(50, 40, 20, 0, 30), 1);
        CHECK.same("cell of a new basin", net.cellCount(1), 1);
        CHECK.same("volume of a new basin", net.volumeOf(1), 0);
        CHECK.same("street of a new basin", net.streetVolume(1), 0);
        CHECK.same("hand of a new basin", net.setHand(1, 0), 0);
        CHECK.same("rain of a new basin", net.setRain(1, 0), 0);
        CHECK.same("third", net.addBasin(2, 2, 2, 1, 2), 2);
        CHECK.same("fourth", net.addBasin(2, 2, 2, 0, 2), 3);
        CHECK.same("fifth", net.addBasin(2, 2, 2, 3, 2), 4);
        CHECK.same("sixth", net.addBasin(2, 2, 2, 4, 2), 5);
    }

    private static void addBasinRefuses() {
        CHECK.refused("first below 0", INDEX, StormBasin::new, net -> net.addBasin(5, 5, 5, 0, 5));
        CHECK.refused("first below -2", INDEX, StormBasin::new, net -> net.addBasin(5, 5, 5, -2, 5));
        CHECK.refused("second below NONE", INDEX, BuildTest::one, net -> net.addBasin(5, 5, 5, -1, 5));
        CHECK.refused("second below itself", INDEX, BuildTest::one, net -> net.addBasin(5, 5, 5, 1, 5));
        CHECK.refused("area 0", ARGUMENT, BuildTest::one, net -> net.addBasin(0, 5, 5, 0, 5));
        CHECK.refused("area 51", ARGUMENT, BuildTest::one, net -> net.addBasin(51, 5, 5, 0, 5));
        CHECK.refused("depth 0", ARGUMENT, BuildTest::one, net -> net.addBasin(5, 0, 5, 0, 5));
        CHECK.refused("depth 41", ARGUMENT, BuildTest::one, net -> net.addBasin(5, 41, 5, 0, 5));
        CHECK.refused("width -1", ARGUMENT, BuildTest::one, net -> net.addBasin(5, 5, -1, 0, 5));
        CHECK.refused("width 21", ARGUMENT, BuildTest::one, net -> net.addBasin(5, 5, 21, 0, 5));
        CHECK.refused("height -1", ARGUMENT, BuildTest::one, net -> net.addBasin(5, 5, 5, 0, -1));
        CHECK.refused("height 31", ARGUMENT, BuildTest::one, net -> net.addBasin(5, 5, 5, 0, 31));
        CHECK.refused("below before area", INDEX, BuildTest::one, net -> net.addBasin(0, 5, 5, 1, 5));
        CHECK.refused("seventh", STATE, BuildTest::six, net -> net.addBasin(5, 5, 5, 5, 5));
        CHECK.refused("seventh, below itself", INDEX, BuildTest::six, net -> net.addBasin(5, 5, 5, 6, 5));
        CHECK.refused("seventh, height 31", ARGUMENT, BuildTest::six, net -> net.addBasin(5, 5, 5, 0, 31));
        CHECK.refused("after an hour", STATE, BuildTest::passed, net -> net.addBasin(5, 5, 5, 0, 5));
        CHECK.refused("after an hour, area", ARGUMENT, BuildTest::passed, net -> net.addBasin(0, 5, 5, 0, 5));
    }

    private static void addCellAnswers() {
        StormBasin net = one();
        CHECK.same("addCell least", net.addCell(0, 0), 2);
        CHECK.same("addCell most", net.addCell(0, 30), 3);
        for (int cells = 4; cells <= 8; cells++) {
            CHECK.same("addCell", net.addCell(0, 7), cells);
        }
        CHECK.same("cellCount", net.cellCount(0), 8);
    }

    private static void addCellRefuses() {
        CHECK.refused("cell of no basin", INDEX, StormBasin::new, net -> net.addCell(0, 1));
        CHECK.refused("cell of basin -1", INDEX, BuildTest::one, net -> net.addCell(-1, 1));
        CHECK.refused("cell of basin 1", INDEX, BuildTest::one, net -> net.addCell(1, 31));
        CHECK.refused("cell height -1", ARGUMENT, BuildTest::one, net -> net.addCell(0, -1));
        CHECK.refused("cell height 31", ARGUMENT, BuildTest::one, net -> net.addCell(0, 31));
        CHECK.refused("ninth cell", STATE, BuildTest::eightCells, net -> net.addCell(0, 1));
        CHECK.refused("ninth cell, height", ARGUMENT, BuildTest::eightCells, net -> net.addCell(0, 31));
        CHECK.refused("cell after an hour", STATE, BuildTest::passed, net -> net.addCell(0, 1));
        CHECK.refused("cell after an hour, height", ARGUMENT, BuildTest::passed, net -> net.addCell(0, 31));
    }

    private static void countsAndCapacity() {
        StormBasin net = six();
        CHECK.same("basinCount", net.basinCount(), 6);
        net.addCell(2, 3);
        net.addCell(2, 3);
        CHECK.same("cellCount 2", net.cellCount(2), 3);
        CHECK.same("cellCount 3", net.cellCount(3), 1);
        CHECK.same("capacityOf 0", net.capacityOf(0), 35);
        CHECK.same("capacityOf 5", net.capacityOf(5), 2000);
        CHECK.refused("cellCount 6", INDEX, BuildTest::six, refusing -> refusing.cellCount(6));
        CHECK.refused("cellCount -1", INDEX, BuildTest::six, refusing -> refusing.cellCount(-1));
        CHECK.refused("capacityOf 6", INDEX, BuildTest::six, refusing -> refusing.capacityOf(6));
        CHECK.refused("capacityOf -1", INDEX, BuildTest::six, refusing -> refusing.capacityOf(-1));
    }

    private static StormBasin one() {
        StormBasin net = new StormBasin();
        net.addBasin(5, 7, 2, StormBasin.NONE, 3);
        return net;
    }

    private static StormBasin six() {
        StormBasin net = one();
        for (int below = 0; below < 5; below++) {
            net.addBasin(50, 40, 20, below, 30);
        }
        return net;
    }

    private static StormBasin eightCells() {
        StormBasin net = one();
        for (int i = 1; i < 8; i++) {
            net.addCell(0, i);
        }
        return net;
    }

    private static StormBasin passed() {
        StormBasin net = one();
        net.pass(1);
        return net;
    }
}
