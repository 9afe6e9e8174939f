/** Promises 42 and 43: a rule is written and read. */
final class LineTest {
    private static final Check CHECK = new Check();
    private static final Class<IndexOutOfBoundsException> INDEX = IndexOutOfBoundsException.class;

    public static void main(String[] args) {
        written();
        shortestAndLongest();
        aRefusedCallLeavesTheLine();
        refusals();
        CHECK.end();
    }

    private static void written() {
        StormBasin net = ruled();
        CHECK.same("empty at first", Check.lineOf(net), "");
        CHECK.same("length 0", net.writeRule(0), 8);
        CHECK.same("line 0", Check.lineOf(net), "2:0>15=4");
        CHECK.same("length 1", net.writeRule(1), 9);
        CHECK.same("line 1", Check.lineOf(net), "0:1<40=10");
        CHECK.same("length 2", net.writeRule(2), 7);
        CHECK.same("shorter than the line before", Check.lineOf(net), "1:1<0=0");
        CHECK.same("first character", net.lineAt(0), '1');
        CHECK.same("last character", net.lineAt(6), '0');
        net.removeRule(2);
        CHECK.same("stays when its rule goes", Check.lineOf(net), "1:1<0=0");
    }

    private static void shortestAndLongest() {
        StormBasin net = Nets.six();
        net.addRule(0, 0, true, 0, 0);
        net.addRule(5, 5, false, 40, 10);
        net.addRule(1, 2, true, 9, 9);
        net.addRule(3, 4, false, 10, 10);
        String[] due = {"0:0>0=0", "5:5<40=10", "1:2>9=9", "3:4<10=10"};
        for (int rule = 0; rule < due.length; rule++) {
            int last = due[rule].length() - 1;
            CHECK.same("length", net.writeRule(rule), due[rule].length());
            CHECK.same("line", Check.lineOf(net), due[rule]);
            CHECK.same("last character", net.lineAt(last), due[rule].charAt(last));
            CHECK.thrown("beyond the last one", INDEX, () -> net.lineAt(last + 1));
            CHECK.thrown("before the first one", INDEX, () -> net.lineAt(-1));
        }
    }

    private static void aRefusedCallLeavesTheLine() {
        StormBasin net = writtenOnce();
        CHECK.thrown("rule 3", INDEX, () -> net.writeRule(3));
        CHECK.same("line after it", Check.lineOf(net), "2:0>15=4");
        CHECK.same("the same rule again", net.writeRule(0), 8);
        CHECK.same("in place of the line before", Check.lineOf(net), "2:0>15=4");
    }

    private static void refusals() {
        CHECK.refused("writeRule of none", INDEX, StormBasin::new, x -> x.writeRule(0));
        CHECK.refused("writeRule 3", INDEX, LineTest::writtenOnce, x -> x.writeRule(3));
        CHECK.refused("writeRule -1", INDEX, LineTest::writtenOnce, x -> x.writeRule(-1));
        CHECK.refused("lineAt of an empty line", INDEX, LineTest::ruled, x -> x.lineAt(0));
        CHECK.refused("lineAt 8", INDEX, LineTest::writtenOnce, x -> x.lineAt(8));
        CHECK.refused("lineAt -1", INDEX, LineTest::writtenOnce, x -> x.lineAt(-1));
    }

    private static StormBasin ruled() {
        StormBasin net = new StormBasin();
        net.addBasin(1, 10, 1, StormBasin.NONE, 0);
        net.addBasin(1, 10, 1, 0, 0);
        net.addBasin(1, 10, 1, 0, 0);
        net.addRule(2, 0, true, 15, 4);
        net.addRule(0, 1, false, 40, 10);
        net.addRule(1, 1, false, 0, 0);
        return net;
    }

    private static StormBasin writtenOnce() {
        StormBasin net = ruled();
        net.writeRule(0);
        return net;
    }
}
