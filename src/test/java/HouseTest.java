import java.util.NoSuchElementException;

/** Promises 29 to 38: houses and their claims. */
final class HouseTest {
    private static final Check CHECK = new Check();
    private static final Class<IndexOutOfBoundsException> INDEX = IndexOutOfBoundsException.class;
    private static final Class<IllegalArgumentException> ARGUMENT = IllegalArgumentException.class;
    private static final Class<IllegalStateException> STATE = IllegalStateException.class;
    private static final Class<UnsupportedOperationException> DRY = UnsupportedOperationException.class;

    public static void main(String[] args) {
        addHouseAnswers();
        addHouseRefuses();
        wetAndWorth();
        claim();
        paymentsUpToTheCover();
        housesInOneCell();
        firstAndLastHour();
        claimRefuses();
        claimWorst();
        sums();
        meanPayment();
        CHECK.end();
    }

    private static void addHouseAnswers() {
        StormBasin net = street();
        CHECK.same("houseCount", net.houseCount(), 2);
        CHECK.same("least house", net.addHouse(0, 0, 1, 0), 2);
        CHECK.same("most house", net.addHouse(0, 1, 100, 5000), 3);
        CHECK.same("houseCount of four", net.houseCount(), 4);
        CHECK.same("ten houses", ten().houseCount(), 10);
        CHECK.same("a new house has claimed nothing", net.claimCount(3), 0);
        CHECK.same("a new house has been paid nothing", net.paidTo(3), 0);
    }

    private static void addHouseRefuses() {
        CHECK.refused("house of no basin", INDEX, StormBasin::new, x -> x.addHouse(0, 0, 1, 1));
        CHECK.refused("house of basin 1", INDEX, HouseTest::street, x -> x.addHouse(1, 0, 0, 1));
        CHECK.refused("house of basin -1", INDEX, HouseTest::street, x -> x.addHouse(-1, 0, 1, 1));
        CHECK.refused("house of cell 2", INDEX, HouseTest::street, x -> x.addHouse(0, 2, 0, 1));
        CHECK.refused("house of cell -1", INDEX, HouseTest::street, x -> x.addHouse(0, -1, 1, 1));
        CHECK.refused("rate 0", ARGUMENT, HouseTest::street, x -> x.addHouse(0, 0, 0, 1));
        CHECK.refused("rate 101", ARGUMENT, HouseTest::street, x -> x.addHouse(0, 0, 101, 1));
        CHECK.refused("cover -1", ARGUMENT, HouseTest::street, x -> x.addHouse(0, 0, 1, -1));
        CHECK.refused("cover 5001", ARGUMENT, HouseTest::street, x -> x.addHouse(0, 0, 1, 5001));
        CHECK.refused("house 11", STATE, HouseTest::ten, x -> x.addHouse(0, 0, 1, 1));
        CHECK.refused("house 11, rate", ARGUMENT, HouseTest::ten, x -> x.addHouse(0, 0, 0, 1));
        CHECK.refused("house 11, cell", INDEX, HouseTest::ten, x -> x.addHouse(0, 2, 1, 1));
    }

    private static void wetAndWorth() {
        StormBasin net = street();
        CHECK.same("dry", net.wasWet(0, 1), false);
        CHECK.same("wet", net.wasWet(0, 2), true);
        CHECK.same("worth of a dry hour", net.worthOf(0, 1), 0);
        CHECK.same("worth of a wet hour", net.worthOf(0, 3), 30);
        net.claim(0, 3);
        CHECK.same("worth after a claim", net.worthOf(0, 3), 30);
        CHECK.same("worth beyond the cover", net.worthOf(0, 4), 50);
        CHECK.same("house added later", net.worthOf(net.addHouse(0, 1, 7, 9), 4), 42);
        CHECK.refused("wasWet house", INDEX, HouseTest::street, x -> x.wasWet(2, 0));
        CHECK.refused("wasWet house -1", INDEX, HouseTest::street, x -> x.wasWet(-1, 1));
        CHECK.refused("wasWet hour 0", ARGUMENT, HouseTest::street, x -> x.wasWet(0, 0));
        CHECK.refused("wasWet hour 6", ARGUMENT, HouseTest::street, x -> x.wasWet(0, 6));
        CHECK.refused("worthOf house", INDEX, HouseTest::street, x -> x.worthOf(2, 0));
        CHECK.refused("worthOf house -1", INDEX, HouseTest::street, x -> x.worthOf(-1, 1));
        CHECK.refused("worthOf hour 0", ARGUMENT, HouseTest::street, x -> x.worthOf(0, 0));
        CHECK.refused("worthOf hour 6", ARGUMENT, HouseTest::street, x -> x.worthOf(0, 6));
    }

    private static void claim() {
        StormBasin net = street();
        CHECK.same("whole worth", net.claim(0, 2), 10);
        CHECK.same("rest of the cover", net.claim(0, 3), 25);
        CHECK.same("nothing left", net.claim(0, 4), 0);
        CHECK.same("paid", net.paidTo(0), 35);
        CHECK.same("claims", net.claimCount(0), 3);
        CHECK.same("another house", net.claim(1, 2), 6);
        CHECK.thrown("claim 0 again", STATE, () -> net.claim(0, 4));
    }

    /** The hours 2 and 3 are worth 10 and 30. */
    private static void paymentsUpToTheCover() {
        for (int cover = 0; cover <= 42; cover++) {
            StormBasin net = street();
            int house = net.addHouse(0, 0, 10, cover);
            int first = Math.min(10, cover);
            int second = Math.min(30, cover - first);
            CHECK.same("first payment by " + cover, net.claim(house, 2), first);
            CHECK.same("second payment by " + cover, net.claim(house, 3), second);
            CHECK.same("paid by " + cover, net.paidTo(house), first + second);
            CHECK.same("paid in all by " + cover, net.paidTotal(), (long) first + second);
            CHECK.same("claims by " + cover, net.claimCount(house), 2);
        }
    }

    private static void housesInOneCell() {
        StormBasin net = street();
        int other = net.addHouse(0, 0, 10, 35);
        CHECK.same("one house", net.claim(0, 3), 30);
        CHECK.same("the same hour of the other", net.claim(other, 3), 30);
        CHECK.same("cover of the one", net.claim(0, 2), 5);
        CHECK.same("cover of the other", net.claimWorst(other), 5);
        CHECK.same("worst of the other was the hour 4", net.claim(other, 5), 0);
        CHECK.same("all payments", net.paidTotal(), 70L);
        CHECK.same("mean of five", net.meanPayment(), 14.0);
    }

    private static void firstAndLastHour() {
        StormBasin net = firstHour();
        CHECK.same("hour 1 was wet", net.wasWet(0, 1), true);
        CHECK.same("claim of the hour 1", net.claim(0, 1), 1);
        CHECK.refused("hour 2 is yet to come", ARGUMENT, HouseTest::firstHour, x -> x.claim(0, 2));
        net.pass(24);
        net.pass(24);
        net.pass(11);
        CHECK.same("worth of the hour 60", net.worthOf(0, 60), 650);
        CHECK.same("claim of the hour 60", net.claim(0, 60), 4);
        CHECK.thrown("claim of the hour 61", ARGUMENT, () -> net.claim(0, 61));
        CHECK.same("the worst that is left", net.claimWorst(0), 0);
        CHECK.thrown("it was the hour 59", STATE, () -> net.claim(0, 59));
        for (int claims = 4; claims <= 60; claims++) {
            net.claimWorst(0);
            CHECK.same("claims", net.claimCount(0), claims);
        }
        CHECK.thrown("all hours are claimed", NoSuchElementException.class, () -> net.claimWorst(0));
        CHECK.same("claims at the end", net.claimCount(0), 60);
        CHECK.same("the cover at the end", net.paidTo(0), 5);
    }

    private static void claimRefuses() {
        CHECK.refused("claim house", INDEX, HouseTest::claimed, x -> x.claim(2, 0));
        CHECK.refused("claim house -1", INDEX, HouseTest::claimed, x -> x.claim(-1, 1));
        CHECK.refused("claim hour 0", ARGUMENT, HouseTest::claimed, x -> x.claim(0, 0));
        CHECK.refused("claim hour 6", ARGUMENT, HouseTest::claimed, x -> x.claim(0, 6));
        CHECK.refused("claim dry", DRY, HouseTest::claimed, x -> x.claim(0, 1));
        CHECK.refused("claim again", STATE, HouseTest::claimed, x -> x.claim(0, 3));
    }

    private static void claimWorst() {
        StormBasin net = street();
        CHECK.same("worst, the first of two", net.claimWorst(1), 18);
        CHECK.thrown("hour 4 is claimed", STATE, () -> net.claim(1, 4));
        CHECK.same("worst, the second of two", net.claimWorst(1), 18);
        CHECK.thrown("hour 5 is claimed", STATE, () -> net.claim(1, 5));
        net.claim(1, 3);
        CHECK.same("worst of what is left", net.claimWorst(1), 6);
        CHECK.thrown("none is left", NoSuchElementException.class, () -> net.claimWorst(1));
        CHECK.same("claims", net.claimCount(1), 4);
        CHECK.same("paid", net.paidTo(1), 54);
        CHECK.same("worst within the cover", net.claimWorst(0), 35);
        CHECK.same("worst beyond the cover", net.claimWorst(0), 0);
        CHECK.same("the first hour alone, at the least worth", firstHour().claimWorst(0), 1);
        CHECK.refused("worst house", INDEX, HouseTest::street, x -> x.claimWorst(2));
        CHECK.refused("worst house -1", INDEX, HouseTest::street, x -> x.claimWorst(-1));
        CHECK.refused("worst without hours", NoSuchElementException.class, HouseTest::ten, x -> x.claimWorst(0));
        CHECK.refused("worst of dry hours", NoSuchElementException.class, Nets::housesInDryHours, x -> x.claimWorst(0));
        CHECK.refused("worst of claimed hours", NoSuchElementException.class, Nets::housesThatClaimed, x -> x.claimWorst(1));
    }

    private static void sums() {
        StormBasin net = claimed();
        CHECK.same("claimCount 0", net.claimCount(0), 2);
        CHECK.same("claimCount 1", net.claimCount(1), 1);
        CHECK.same("paidTo 0", net.paidTo(0), 35);
        CHECK.same("paidTo 1", net.paidTo(1), 6);
        CHECK.same("paidTotal", net.paidTotal(), 41L);
        CHECK.same("paidTotal of none", new StormBasin().paidTotal(), 0L);
        CHECK.refused("claimCount 2", INDEX, HouseTest::claimed, x -> x.claimCount(2));
        CHECK.refused("claimCount -1", INDEX, HouseTest::claimed, x -> x.claimCount(-1));
        CHECK.refused("paidTo 2", INDEX, HouseTest::claimed, x -> x.paidTo(2));
        CHECK.refused("paidTo -1", INDEX, HouseTest::claimed, x -> x.paidTo(-1));
    }

    private static void meanPayment() {
        CHECK.same("mean", claimed().meanPayment(), 41.0 / 3.0);
        StormBasin nothing = street();
        nothing.addHouse(0, 0, 5, 0);
        nothing.claim(2, 2);
        CHECK.same("mean of nothing paid", nothing.meanPayment(), 0.0);
        StormBasin once = street();
        once.claim(1, 2);
        CHECK.same("mean of one claim", once.meanPayment(), 6.0);
        nothing.claim(1, 2);
        nothing.claim(2, 3);
        CHECK.same("claims that were paid nothing count", nothing.meanPayment(), 2.0);
        CHECK.refused("mean of a new net", ArithmeticException.class, StormBasin::new, x -> x.meanPayment());
        CHECK.refused("mean without claims", ArithmeticException.class, HouseTest::street, x -> x.meanPayment());
    }

    /** Cell 0 has the depths 0, 1, 3, 5 and 5 at the ends of the hours, cell 1 one more from the second on. */
    private static StormBasin street() {
        StormBasin net = new StormBasin();
        net.addBasin(1, 10, 1, StormBasin.NONE, 1);
        net.addCell(0, 0);
        net.addHouse(0, 0, 10, 35);
        net.addHouse(0, 1, 3, 100);
        net.setRain(0, 10);
        net.pass(1);
        net.setRain(0, 3);
        net.pass(1);
        net.setRain(0, 4);
        net.pass(2);
        net.setRain(0, 0);
        net.pass(1);
        return net;
    }

    /** The only hour so far leaves a depth of 1 at a house with the rate 1. */
    private static StormBasin firstHour() {
        StormBasin net = new StormBasin();
        net.addBasin(1, 10, 1, StormBasin.NONE, 1);
        net.addHouse(0, 0, 1, 5);
        net.setRain(0, 11);
        net.pass(1);
        return net;
    }

    private static StormBasin claimed() {
        StormBasin net = street();
        net.claim(0, 2);
        net.claim(0, 3);
        net.claim(1, 2);
        return net;
    }

    private static StormBasin ten() {
        StormBasin net = new StormBasin();
        net.addBasin(1, 10, 1, StormBasin.NONE, 1);
        for (int house = 0; house < 10; house++) {
            net.addHouse(0, 0, 1, house);
        }
        return net;
    }
}
