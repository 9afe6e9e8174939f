import java.util.ArrayList;
import java.util.List;
import java.util.NoSuchElementException;

/** The document once more, in another way: everything is poured unit by unit and looked up in what has been. */
final class Model {
    private static final class Basin {
        int area;
        int depth;
        int width;
        int below;
        int hand;
        int rain;
        final List<Integer> heights = new ArrayList<>();
        final List<Integer> rains = new ArrayList<>();
        final List<Integer> streets = new ArrayList<>();
        // By the volume that has been poured, the depths of all cells.
        private final List<int[]> poured = new ArrayList<>();

        int[] depths(int volume) {
            if (poured.isEmpty() || poured.get(0).length != heights.size()) {
                poured.clear();
                poured.add(new int[heights.size()]);
            }
            while (poured.size() <= volume) {
                int[] next = poured.get(poured.size() - 1).clone();
                int least = next.length - 1;
                for (int cell = next.length - 1; cell >= 0; cell--) {
                    least = heights.get(cell) + next[cell] <= heights.get(least) + next[least] ? cell : least;
                }
                next[least]++;
                poured.add(next);
            }
            return poured.get(volume);
        }

        int wet(int volume) {
            int count = 0;
            for (int depth : depths(volume)) {
                count += depth > 0 ? 1 : 0;
            }
            return count;
        }
    }

    private record Rule(int basin, int observed, boolean isFrom, int level, int opening) {
    }

    private static final class House {
        int basin;
        int cell;
        int rate;
        int cover;
        final List<Integer> hours = new ArrayList<>();
        final List<Integer> payments = new ArrayList<>();
    }

    private static final class State {
        final int[] volume = new int[6];
        final int[] street = new int[6];
        int river;
        int flooded;
    }

    private final List<Basin> basins = new ArrayList<>();
    private final List<Rule> rules = new ArrayList<>();
    private final List<House> houses = new ArrayList<>();
    private final State now = new State();
    private int hours;
    private String text = "";

    private static void index(boolean isRight) {
        if (!isRight) {
            throw new IndexOutOfBoundsException();
        }
    }

    private static void argument(int value, int least, int most) {
        if (value < least || value > most) {
            throw new IllegalArgumentException();
        }
    }

    private static void state(boolean isRight) {
        if (!isRight) {
            throw new IllegalStateException();
        }
    }

    private Basin basin(int basin) {
        index(basin >= 0 && basin < basins.size());
        return basins.get(basin);
    }

    private Basin cell(int basin, int cell) {
        index(cell >= 0 && cell < basin(basin).heights.size());
        return basins.get(basin);
    }

    private Rule rule(int rule) {
        index(rule >= 0 && rule < rules.size());
        return rules.get(rule);
    }

    private House house(int house) {
        index(house >= 0 && house < houses.size());
        return houses.get(house);
    }

    private int depthAtEnd(House house, int hour) {
        argument(hour, 1, hours);
        return depthThen(house.basin, house.cell, hour);
    }

    int addBasin(int area, int depth, int width, int below, int height) {
        index(basins.isEmpty() ? below == -1 : below >= 0 && below < basins.size());
        argument(area, 1, 50);
        argument(depth, 1, 40);
        argument(width, 0, 20);
        argument(height, 0, 30);
        state(basins.size() < 6 && hours == 0);
        Basin added = new Basin();
        added.area = area;
        added.depth = depth;
        added.width = width;
        added.below = below;
        added.heights.add(height);
        basins.add(added);
        return basins.size() - 1;
    }

    int addCell(int basin, int height) {
        List<Integer> heights = basin(basin).heights;
        argument(height, 0, 30);
        state(heights.size() < 8 && hours == 0);
        heights.add(height);
        return heights.size();
    }

    int basinCount() {
        return basins.size();
    }

    int cellCount(int basin) {
        return basin(basin).heights.size();
    }

    int capacityOf(int basin) {
        return basin(basin).area * basin(basin).depth;
    }

    int setHand(int basin, int opening) {
        Basin changed = basin(basin);
        argument(opening, 0, 10);
        int before = changed.hand;
        changed.hand = opening;
        return before;
    }

    int addRule(int basin, int observed, boolean isFrom, int level, int opening) {
        basin(basin);
        basin(observed);
        argument(level, 0, 40);
        argument(opening, 0, 10);
        state(rules.size() < 12);
        rules.add(new Rule(basin, observed, isFrom, level, opening));
        return rules.size();
    }

    int removeRule(int rule) {
        rule(rule);
        rules.remove(rule);
        return rules.size();
    }

    int ruleCount() {
        return rules.size();
    }

    private boolean holds(Rule rule, State by) {
        int level = by.volume[rule.observed] / basins.get(rule.observed).area;
        return rule.isFrom ? level >= rule.level : level < rule.level;
    }

    private int opening(int basin, State by) {
        int opening = basins.get(basin).hand;
        for (Rule rule : rules) {
            opening = rule.basin == basin && holds(rule, by) ? rule.opening : opening;
        }
        return opening;
    }

    boolean doesHold(int rule) {
        return holds(rule(rule), now);
    }

    int openingNow(int basin) {
        basin(basin);
        return opening(basin, now);
    }

    int setRain(int basin, int rain) {
        Basin changed = basin(basin);
        argument(rain, 0, 500);
        int before = changed.rain;
        changed.rain = rain;
        return before;
    }

    /** One hour, the first being 0, for a state. */
    private void hour(State state, int hour, int fixed, int fixedOpening) {
        int[] gone = new int[6];
        for (int i = 0; i < basins.size(); i++) {
            state.volume[i] += basins.get(i).rains.get(hour);
        }
        for (int i = 0; i < basins.size(); i++) {
            int wanted = (i == fixed ? fixedOpening : opening(i, state)) * basins.get(i).width;
            gone[i] = wanted > state.volume[i] ? state.volume[i] : wanted;
        }
        for (int i = 0; i < basins.size(); i++) {
            state.volume[i] -= gone[i];
            if (i == 0) {
                state.river += gone[i];
            } else {
                state.volume[basins.get(i).below] += gone[i];
            }
        }
        for (int i = 0; i < basins.size(); i++) {
            int capacity = capacityOf(i);
            while (state.volume[i] > capacity) {
                state.volume[i]--;
                state.street[i]++;
            }
            while (state.volume[i] < capacity && state.street[i] > 0 && gone[i] >= 0) {
                state.volume[i]++;
                state.street[i]--;
            }
            state.flooded += basins.get(i).wet(state.street[i]);
        }
    }

    int pass(int count) {
        argument(count, 1, 24);
        state(!basins.isEmpty() && hours + count <= 60);
        for (int i = 0; i < count; i++) {
            for (Basin basin : basins) {
                basin.rains.add(basin.rain);
            }
            hour(now, hours, -1, 0);
            hours++;
            for (int basin = 0; basin < basins.size(); basin++) {
                basins.get(basin).streets.add(now.street[basin]);
            }
        }
        return hours;
    }

    int clock() {
        return hours;
    }

    int volumeOf(int basin) {
        basin(basin);
        return now.volume[basin];
    }

    int levelOf(int basin) {
        return now.volume[basins.indexOf(basin(basin))] / basin(basin).area;
    }

    int streetVolume(int basin) {
        basin(basin);
        return now.street[basin];
    }

    int rainTotal() {
        return basins.stream().flatMap(basin -> basin.rains.stream()).mapToInt(rain -> rain).sum();
    }

    int riverTotal() {
        return now.river;
    }

    int heldTotal() {
        int sum = 0;
        for (int i = 0; i < 6; i++) {
            sum += now.volume[i] + now.street[i];
        }
        return sum;
    }

    boolean isBalanced() {
        return rainTotal() == heldTotal() + riverTotal();
    }

    int depthAt(int basin, int cell) {
        return cell(basin, cell).depths(now.street[basin])[cell];
    }

    int depthByPouring(int basin, int cell) {
        return depthAt(basin, cell);
    }

    int depthThen(int basin, int cell, int hour) {
        Basin asked = cell(basin, cell);
        argument(hour, 1, hours);
        return asked.depths(asked.streets.get(hour - 1))[cell];
    }

    int wetCells(int basin) {
        return basin(basin).wet(now.street[basin]);
    }

    int wetHours(int basin, int cell) {
        cell(basin, cell);
        int count = 0;
        for (int hour = 1; hour <= hours; hour++) {
            count += depthThen(basin, cell, hour) > 0 ? 1 : 0;
        }
        return count;
    }

    int floodedSoFar() {
        return now.flooded;
    }

    int addHouse(int basin, int cell, int rate, int cover) {
        cell(basin, cell);
        argument(rate, 1, 100);
        argument(cover, 0, 5000);
        state(houses.size() < 10);
        House added = new House();
        added.basin = basin;
        added.cell = cell;
        added.rate = rate;
        added.cover = cover;
        houses.add(added);
        return houses.size() - 1;
    }

    int houseCount() {
        return houses.size();
    }

    boolean wasWet(int house, int hour) {
        return depthAtEnd(house(house), hour) > 0;
    }

    int worthOf(int house, int hour) {
        return house(house).rate * depthAtEnd(house(house), hour);
    }

    int claim(int house, int hour) {
        if (!wasWet(house, hour)) {
            throw new UnsupportedOperationException();
        }
        state(!house(house).hours.contains(hour));
        int payment = Math.min(worthOf(house, hour), house(house).cover - paidTo(house));
        house(house).hours.add(hour);
        house(house).payments.add(payment);
        return payment;
    }

    int claimWorst(int house) {
        House claiming = house(house);
        int worst = 0;
        for (int hour = hours; hour >= 1; hour--) {
            boolean isOpen = wasWet(house, hour) && !claiming.hours.contains(hour);
            worst = isOpen && (worst == 0 || worthOf(house, hour) >= worthOf(house, worst)) ? hour : worst;
        }
        if (worst == 0) {
            throw new NoSuchElementException();
        }
        return claim(house, worst);
    }

    int claimCount(int house) {
        return house(house).hours.size();
    }

    int paidTo(int house) {
        return house(house).payments.stream().mapToInt(payment -> payment).sum();
    }

    long paidTotal() {
        return houses.stream().flatMap(house -> house.payments.stream()).mapToLong(payment -> payment).sum();
    }

    double meanPayment() {
        long count = houses.stream().mapToLong(house -> house.payments.size()).sum();
        if (count == 0) {
            throw new ArithmeticException();
        }
        return (double) paidTotal() / (double) count;
    }

    private int trial(int fixed, int opening) {
        State state = new State();
        for (int hour = 0; hour < hours; hour++) {
            hour(state, hour, fixed, opening);
        }
        return state.flooded;
    }

    int floodedWith() {
        return trial(-1, 0);
    }

    int floodedWithOpening(int basin, int opening) {
        basin(basin);
        argument(opening, 0, 10);
        return trial(basin, opening);
    }

    int bestOpening(int basin) {
        basin(basin);
        int best = 10;
        for (int opening = 9; opening >= 0; opening--) {
            best = trial(basin, opening) <= trial(basin, best) ? opening : best;
        }
        return best;
    }

    int writeRule(int rule) {
        Rule written = rule(rule);
        text = written.basin + ":" + written.observed + (written.isFrom ? ">" : "<") + written.level + "="
                + written.opening;
        return text.length();
    }

    char lineAt(int index) {
        index(index >= 0 && index < text.length());
        return text.charAt(index);
    }
}
