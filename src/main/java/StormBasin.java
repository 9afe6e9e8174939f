import java.util.ArrayList;
import java.util.Arrays;
import java.util.NoSuchElementException;

/** A drain net for heavy rain. */
public final class StormBasin {
    /** There is no basin below. */
    public static final int NONE = -1;

    private static final int MOST_BASINS = 6;
    private static final int MOST_AREA = 50;
    private static final int MOST_DEPTH = 40;
    private static final int MOST_WIDTH = 20;
    private static final int MOST_CELLS = 8;
    private static final int MOST_HEIGHT = 30;
    private static final int MOST_RULES = 12;
    private static final int MOST_LEVEL = 40;
    private static final int MOST_OPENING = 10;
    private static final int MOST_RAIN = 500;
    private static final int MOST_HOURS = 60;
    private static final int MOST_HOURS_AT_ONCE = 24;
    private static final int MOST_HOUSES = 10;
    private static final int MOST_RATE = 100;
    private static final int MOST_COVER = 5000;

    private final ArrayList<Basin> basins;
    private final ArrayList<Rule> rules;
    private final ArrayList<House> houses;
    private final Water present;
    // Kept from trial to trial, so that a trial makes no new rows.
    private final Water trial;
    private final StringBuilder line;
    private int clock;
    private int rainSoFar;
    private int wetSoFar;

    public StormBasin() {
        basins = new ArrayList<>();
        rules = new ArrayList<>();
        houses = new ArrayList<>();
        present = new Water();
        trial = new Water();
        line = new StringBuilder();
    }

    // ---- basins and gates

    public int addBasin(int area, int depth, int width, int below, int height)
            throws IndexOutOfBoundsException, IllegalArgumentException, IllegalStateException {
        int number = basins.size();
        boolean isBelowThere = number == 0 ? below == NONE : isWithin(below, 0, number - 1);
        if (!isBelowThere) {
            throw new IndexOutOfBoundsException("no such basin below");
        }
        if (!isWithin(area, 1, MOST_AREA) || !isWithin(depth, 1, MOST_DEPTH)
                || !isWithin(width, 0, MOST_WIDTH)) {
            throw new IllegalArgumentException("area, depth or width out of range");
        }
        requireHeight(height);
        if (number >= MOST_BASINS) {
            throw new IllegalStateException("no more basins");
        }
        requireBeforeFirstHour();
        basins.add(new Basin(area, depth, width, below, height));
        return number;
    }

    public int addCell(int basin, int height)
            throws IndexOutOfBoundsException, IllegalArgumentException, IllegalStateException {
        Street street = basinOf(basin).street;
        requireHeight(height);
        if (street.cells >= MOST_CELLS) {
            throw new IllegalStateException("no more cells in this street");
        }
        requireBeforeFirstHour();
        street.append(height);
        return street.cells;
    }

    public int basinCount() {
        return basins.size();
    }

    public int cellCount(int basin) throws IndexOutOfBoundsException {
        return basinOf(basin).street.cells;
    }

    public int capacityOf(int basin) throws IndexOutOfBoundsException {
        return basinOf(basin).capacity();
    }

    public int setHand(int basin, int opening) throws IndexOutOfBoundsException, IllegalArgumentException {
        Basin changed = basinOf(basin);
        requireOpening(opening);
        int previous = changed.hand;
        changed.hand = opening;
        return previous;
    }

    public int addRule(int basin, int observed, boolean isFrom, int level, int opening)
            throws IndexOutOfBoundsException, IllegalArgumentException, IllegalStateException {
        requireBasin(basin);
        requireBasin(observed);
        if (!isWithin(level, 0, MOST_LEVEL)) {
            throw new IllegalArgumentException("level out of range");
        }
        requireOpening(opening);
        if (rules.size() >= MOST_RULES) {
            throw new IllegalStateException("no more rules");
        }
        rules.add(new Rule(basin, observed, isFrom, level, opening));
        return rules.size();
    }

    public int removeRule(int rule) throws IndexOutOfBoundsException {
        requireRule(rule);
        rules.remove(rule);
        return rules.size();
    }

    public int ruleCount() {
        return rules.size();
    }

    public boolean doesHold(int rule) throws IndexOutOfBoundsException {
        requireRule(rule);
        return holdsBy(present, rules.get(rule));
    }

    public int openingNow(int basin) throws IndexOutOfBoundsException {
        requireBasin(basin);
        return openingBy(present, basin);
    }

    // ---- hours and water

    public int setRain(int basin, int rain) throws IndexOutOfBoundsException, IllegalArgumentException {
        Basin changed = basinOf(basin);
        if (!isWithin(rain, 0, MOST_RAIN)) {
            throw new IllegalArgumentException("rain out of range");
        }
        int previous = changed.rain;
        changed.rain = rain;
        return previous;
    }

    public int pass(int hours) throws IllegalArgumentException, IllegalStateException {
        if (!isWithin(hours, 1, MOST_HOURS_AT_ONCE)) {
            throw new IllegalArgumentException("hours out of range");
        }
        if (basins.isEmpty()) {
            throw new IllegalStateException("no basin");
        }
        if (hours > MOST_HOURS - clock) {
            throw new IllegalStateException("the clock would go too far");
        }
        for (int i = 0; i < hours; i++) {
            passOneHour();
        }
        return clock;
    }

    public int clock() {
        return clock;
    }

    public int volumeOf(int basin) throws IndexOutOfBoundsException {
        requireBasin(basin);
        return present.inBasin[basin];
    }

    public int levelOf(int basin) throws IndexOutOfBoundsException {
        requireBasin(basin);
        return levelBy(present, basin);
    }

    public int streetVolume(int basin) throws IndexOutOfBoundsException {
        requireBasin(basin);
        return present.onStreet[basin];
    }

    public int rainTotal() {
        return rainSoFar;
    }

    public int riverTotal() {
        return present.inRiver;
    }

    public int heldTotal() {
        return present.held();
    }

    public boolean isBalanced() {
        return rainSoFar == present.held() + present.inRiver;
    }

    // ---- streets

    public int depthAt(int basin, int cell) throws IndexOutOfBoundsException {
        Street street = streetWith(basin, cell);
        return street.depthOf(cell, present.onStreet[basin]);
    }

    public int depthByPouring(int basin, int cell) throws IndexOutOfBoundsException {
        Street street = streetWith(basin, cell);
        return street.depthPoured(cell, present.onStreet[basin]);
    }

    public int depthThen(int basin, int cell, int hour)
            throws IndexOutOfBoundsException, IllegalArgumentException {
        Street street = streetWith(basin, cell);
        requireHour(hour);
        return street.depthOf(cell, street.volumeAtEnd[hour]);
    }

    public int wetCells(int basin) throws IndexOutOfBoundsException {
        return basinOf(basin).street.countWet(present.onStreet[basin]);
    }

    public int wetHours(int basin, int cell) throws IndexOutOfBoundsException {
        Street street = streetWith(basin, cell);
        int count = 0;
        for (int hour = 1; hour <= clock; hour++) {
            if (street.isWet(cell, street.volumeAtEnd[hour])) {
                count++;
            }
        }
        return count;
    }

    public int floodedSoFar() {
        return wetSoFar;
    }

    // ---- houses and claims

    public int addHouse(int basin, int cell, int rate, int cover)
            throws IndexOutOfBoundsException, IllegalArgumentException, IllegalStateException {
        Street street = streetWith(basin, cell);
        if (!isWithin(rate, 1, MOST_RATE) || !isWithin(cover, 0, MOST_COVER)) {
            throw new IllegalArgumentException("rate or cover out of range");
        }
        int number = houses.size();
        if (number >= MOST_HOUSES) {
            throw new IllegalStateException("no more houses");
        }
        houses.add(new House(street, cell, rate, cover));
        return number;
    }

    public int houseCount() {
        return houses.size();
    }

    public boolean wasWet(int house, int hour) throws IndexOutOfBoundsException, IllegalArgumentException {
        House asked = houseOf(house);
        requireHour(hour);
        return asked.isWetAt(hour);
    }

    public int worthOf(int house, int hour) throws IndexOutOfBoundsException, IllegalArgumentException {
        House asked = houseOf(house);
        requireHour(hour);
        return asked.worthAt(hour);
    }

    public int claim(int house, int hour) throws IndexOutOfBoundsException, IllegalArgumentException,
            UnsupportedOperationException, IllegalStateException {
        House claiming = houseOf(house);
        requireHour(hour);
        if (!claiming.isWetAt(hour)) {
            throw new UnsupportedOperationException("not wet at the end of this hour");
        }
        if (claiming.isClaimed[hour]) {
            throw new IllegalStateException("this hour has been claimed");
        }
        return claiming.pay(hour);
    }

    public int claimWorst(int house) throws IndexOutOfBoundsException, NoSuchElementException {
        House claiming = houseOf(house);
        int worst = claiming.worstHour(clock);
        if (worst == 0) {
            throw new NoSuchElementException("no hour to claim");
        }
        return claiming.pay(worst);
    }

    public int claimCount(int house) throws IndexOutOfBoundsException {
        return houseOf(house).claims;
    }

    public int paidTo(int house) throws IndexOutOfBoundsException {
        return houseOf(house).paid;
    }

    public long paidTotal() {
        long sum = 0;
        for (int i = 0; i < houses.size(); i++) {
            sum += houses.get(i).paid;
        }
        return sum;
    }

    public double meanPayment() throws ArithmeticException {
        int claims = 0;
        for (int i = 0; i < houses.size(); i++) {
            claims += houses.get(i).claims;
        }
        if (claims == 0) {
            throw new ArithmeticException("no claims");
        }
        return (double) paidTotal() / (double) claims;
    }

    // ---- trials on past rain

    public int floodedWith() {
        return tryPastRain(NONE, 0);
    }

    public int floodedWithOpening(int basin, int opening)
            throws IndexOutOfBoundsException, IllegalArgumentException {
        requireBasin(basin);
        requireOpening(opening);
        return tryPastRain(basin, opening);
    }

    public int bestOpening(int basin) throws IndexOutOfBoundsException {
        requireBasin(basin);
        int best = 0;
        int least = tryPastRain(basin, 0);
        for (int opening = 1; opening <= MOST_OPENING; opening++) {
            int flooded = tryPastRain(basin, opening);
            if (flooded < least) {
                least = flooded;
                best = opening;
            }
        }
        return best;
    }

    // ---- line

    public int writeRule(int rule) throws IndexOutOfBoundsException {
        requireRule(rule);
        Rule written = rules.get(rule);
        line.setLength(0);
        line.append(written.basin).append(':').append(written.observed);
        line.append(written.isFrom ? '>' : '<').append(written.level);
        line.append('=').append(written.opening);
        return line.length();
    }

    public char lineAt(int index) throws IndexOutOfBoundsException {
        if (!isWithin(index, 0, line.length() - 1)) {
            throw new IndexOutOfBoundsException("no such character");
        }
        return line.charAt(index);
    }

    // ---- what the calls require

    private static boolean isWithin(int value, int least, int most) {
        return value >= least && value <= most;
    }

    private static void requireHeight(int height) {
        if (!isWithin(height, 0, MOST_HEIGHT)) {
            throw new IllegalArgumentException("height out of range");
        }
    }

    private static void requireOpening(int opening) {
        if (!isWithin(opening, 0, MOST_OPENING)) {
            throw new IllegalArgumentException("opening out of range");
        }
    }

    private void requireBeforeFirstHour() {
        if (clock > 0) {
            throw new IllegalStateException("an hour has passed");
        }
    }

    private void requireHour(int hour) {
        if (!isWithin(hour, 1, clock)) {
            throw new IllegalArgumentException("hour out of range");
        }
    }

    private void requireBasin(int basin) {
        if (!isWithin(basin, 0, basins.size() - 1)) {
            throw new IndexOutOfBoundsException("no such basin");
        }
    }

    private void requireRule(int rule) {
        if (!isWithin(rule, 0, rules.size() - 1)) {
            throw new IndexOutOfBoundsException("no such rule");
        }
    }

    private Basin basinOf(int basin) {
        requireBasin(basin);
        return basins.get(basin);
    }

    private Street streetWith(int basin, int cell) {
        Street street = basinOf(basin).street;
        if (!isWithin(cell, 0, street.cells - 1)) {
            throw new IndexOutOfBoundsException("no such cell");
        }
        return street;
    }

    private House houseOf(int house) {
        if (!isWithin(house, 0, houses.size() - 1)) {
            throw new IndexOutOfBoundsException("no such house");
        }
        return houses.get(house);
    }

    // ---- how an hour passes, in the present and in trials

    private void passOneHour() {
        int hour = clock + 1;
        for (int i = 0; i < basins.size(); i++) {
            Basin basin = basins.get(i);
            basin.rainIn[hour] = basin.rain;
            rainSoFar += basin.rain;
        }
        moveWater(present, hour, NONE, 0);
        for (int i = 0; i < basins.size(); i++) {
            basins.get(i).street.volumeAtEnd[hour] = present.onStreet[i];
        }
        wetSoFar += wetCellsBy(present);
        clock = hour;
    }

    /** Answers the wet cells of all hours so far; the gate of the fixed basin, unless NONE, is at the opening. */
    private int tryPastRain(int fixedBasin, int opening) {
        trial.clear();
        int sum = 0;
        for (int hour = 1; hour <= clock; hour++) {
            moveWater(trial, hour, fixedBasin, opening);
            sum += wetCellsBy(trial);
        }
        return sum;
    }

    private void moveWater(Water water, int hour, int fixedBasin, int fixedOpening) {
        for (int i = 0; i < basins.size(); i++) {
            water.inBasin[i] += basins.get(i).rainIn[hour];
        }
        // All that leaves is found before any of it moves: all gates run at the same time.
        for (int i = 0; i < basins.size(); i++) {
            int opening = i == fixedBasin ? fixedOpening : openingBy(water, i);
            water.leaving[i] = Math.min(opening * basins.get(i).width, water.inBasin[i]);
        }
        for (int i = 0; i < basins.size(); i++) {
            water.runThroughGate(i, basins.get(i).below);
        }
        for (int i = 0; i < basins.size(); i++) {
            water.settle(i, basins.get(i).capacity());
        }
    }

    private int openingBy(Water water, int basin) {
        // The last rule that holds decides, so the search begins at the end.
        for (int i = rules.size() - 1; i >= 0; i--) {
            Rule rule = rules.get(i);
            if (rule.basin == basin && holdsBy(water, rule)) {
                return rule.opening;
            }
        }
        return basins.get(basin).hand;
    }

    private boolean holdsBy(Water water, Rule rule) {
        return rule.isFrom == (levelBy(water, rule.observed) >= rule.level);
    }

    private int levelBy(Water water, int basin) {
        int area = basins.get(basin).area;
        // addBasin takes no area below 1, but no divisor may go untested.
        return area > 0 ? water.inBasin[basin] / area : 0;
    }

    private int wetCellsBy(Water water) {
        int sum = 0;
        for (int i = 0; i < basins.size(); i++) {
            sum += basins.get(i).street.countWet(water.onStreet[i]);
        }
        return sum;
    }

    /** A basin as it was built, its settings, and the rain that has fallen into it. */
    private static final class Basin {
        final int area;
        final int depth;
        final int width;
        final int below;
        final Street street;
        // By the number of the hour, which begins at 1.
        final int[] rainIn;
        int hand;
        int rain;

        Basin(int area, int depth, int width, int below, int height) {
            this.area = area;
            this.depth = depth;
            this.width = width;
            this.below = below;
            street = new Street(height);
            rainIn = new int[MOST_HOURS + 1];
        }

        int capacity() {
            return area * depth;
        }
    }

    /** A rule for the gate of a basin. */
    private static final class Rule {
        final int basin;
        final int observed;
        final boolean isFrom;
        final int level;
        final int opening;

        Rule(int basin, int observed, boolean isFrom, int level, int opening) {
            this.basin = basin;
            this.observed = observed;
            this.isFrom = isFrom;
            this.level = level;
            this.opening = opening;
        }
    }

    /** The water of a whole net at one time; the present and a trial have one each. */
    private static final class Water {
        final int[] inBasin;
        final int[] onStreet;
        final int[] leaving;
        int inRiver;

        Water() {
            inBasin = new int[MOST_BASINS];
            onStreet = new int[MOST_BASINS];
            leaving = new int[MOST_BASINS];
        }

        void clear() {
            Arrays.fill(inBasin, 0);
            Arrays.fill(onStreet, 0);
            inRiver = 0;
        }

        int held() {
            int sum = 0;
            for (int i = 0; i < MOST_BASINS; i++) {
                sum += inBasin[i] + onStreet[i];
            }
            return sum;
        }

        void runThroughGate(int basin, int below) {
            inBasin[basin] -= leaving[basin];
            if (below == NONE) {
                inRiver += leaving[basin];
            } else {
                inBasin[below] += leaving[basin];
            }
        }

        void settle(int basin, int capacity) {
            int room = capacity - inBasin[basin];
            if (room < 0) {
                onStreet[basin] -= room;
                inBasin[basin] = capacity;
            } else {
                int back = Math.min(onStreet[basin], room);
                onStreet[basin] -= back;
                inBasin[basin] += back;
            }
        }
    }

    /** The cells of a street, and the water that stood on it at the ends of the hours. */
    private static final class Street {
        final int[] heights;
        // By cell, the greatest volume on the street that leaves the cell dry: trials ask for wet
        // cells so often that pouring each time would be slow.
        final int[] dryUpTo;
        final int[] poured;
        // By the number of the hour, which begins at 1.
        final int[] volumeAtEnd;
        int cells;

        Street(int height) {
            heights = new int[MOST_CELLS];
            heights[0] = height;
            cells = 1;
            dryUpTo = new int[MOST_CELLS];
            poured = new int[MOST_CELLS];
            volumeAtEnd = new int[MOST_HOURS + 1];
        }

        void append(int height) {
            heights[cells] = height;
            cells++;
            for (int i = 0; i < cells; i++) {
                dryUpTo[i] = volumeBefore(i);
            }
        }

        private int volumeBefore(int cell) {
            int volume = cellsAhead(cell, heights[cell]);
            for (int i = 0; i < cells; i++) {
                volume += Math.max(heights[cell] - heights[i], 0);
            }
            return volume;
        }

        boolean isWet(int cell, int volume) {
            return volume > dryUpTo[cell];
        }

        int countWet(int volume) {
            int count = 0;
            for (int i = 0; i < cells; i++) {
                if (isWet(i, volume)) {
                    count++;
                }
            }
            return count;
        }

        int depthOf(int cell, int volume) {
            int standing = 0;
            int left = volume;
            while (standing < MOST_HEIGHT && left >= cellsUpTo(standing)) {
                left -= cellsUpTo(standing);
                standing++;
            }
            int covered = cellsUpTo(standing);
            // From the greatest height on, every cell takes a unit in turn.
            if (covered > 0) {
                standing += left / covered;
                left %= covered;
            }
            if (heights[cell] > standing) {
                return 0;
            }
            int last = cellsAhead(cell, standing) < left ? 1 : 0;
            return standing - heights[cell] + last;
        }

        /** Cells that take a unit while the water stands at a height. */
        private int cellsUpTo(int height) {
            return cellsAhead(cells, height);
        }

        /** Those of them that have a lower number, and so take theirs before the cell. */
        private int cellsAhead(int cell, int height) {
            int count = 0;
            for (int i = 0; i < cell; i++) {
                if (heights[i] <= height) {
                    count++;
                }
            }
            return count;
        }

        int depthPoured(int cell, int volume) {
            Arrays.fill(poured, 0);
            for (int unit = 0; unit < volume; unit++) {
                poured[lowestCell()]++;
            }
            return poured[cell];
        }

        private int lowestCell() {
            int lowest = 0;
            for (int i = 1; i < cells; i++) {
                if (heights[i] + poured[i] < heights[lowest] + poured[lowest]) {
                    lowest = i;
                }
            }
            return lowest;
        }
    }

    /** A house, its cover and its claims. */
    private static final class House {
        final Street street;
        final int cell;
        final int rate;
        final int cover;
        // By the number of the hour, which begins at 1.
        final boolean[] isClaimed;
        int claims;
        int paid;

        House(Street street, int cell, int rate, int cover) {
            this.street = street;
            this.cell = cell;
            this.rate = rate;
            this.cover = cover;
            isClaimed = new boolean[MOST_HOURS + 1];
        }

        boolean isWetAt(int hour) {
            return street.isWet(cell, street.volumeAtEnd[hour]);
        }

        int worthAt(int hour) {
            return rate * street.depthOf(cell, street.volumeAtEnd[hour]);
        }

        /** Answers 0, which is no hour, if there is none to claim. */
        int worstHour(int clock) {
            int worst = 0;
            int greatest = 0;
            for (int hour = 1; hour <= clock; hour++) {
                // A dry hour is worth 0 and a wet one more, as a rate is at least 1.
                int worth = isClaimed[hour] ? 0 : worthAt(hour);
                if (worth > greatest) {
                    greatest = worth;
                    worst = hour;
                }
            }
            return worst;
        }

        int pay(int hour) {
            int payment = Math.min(worthAt(hour), cover - paid);
            isClaimed[hour] = true;
            claims++;
            paid += payment;
            return payment;
        }
    }
}
