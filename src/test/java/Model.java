import java.util.ArrayList;
import java.util.LinkedList;
import java.util.List;
import java.util.Map;
import java.util.TreeMap;
import java.util.regex.Pattern;

/**
 * The document once more, as near to its words as can be, with none of the program's code or layout:
 * what the random runs are compared with. Arguments are taken to be right; RangeTest and
 * RefusalTest ask for wrong ones.
 */
final class Model {
    static final class Line {
        int tenant;
        int address;
        int stamp;
    }

    /** Section 7: what undo and the slots keep. */
    static final class State {
        int[] owner = {0, 1, 2, 3, 0, 1, 2, 3};
        Map<Integer, Line> places = new TreeMap<>(); // 10 * set + way
        Map<Integer, LinkedList<Integer>> lists = new TreeMap<>(); // 10 * tenant + set
        int[][] gains = new int[4][8];
        int[] least = {1, 1, 1, 1};
        int[][] counts = new int[4][4];
        int epoch = 0;
        int accesses = 0;

        State copy() {
            State copy = new State();
            copy.owner = owner.clone();
            copy.least = least.clone();
            copy.epoch = epoch;
            copy.accesses = accesses;
            for (int t = 0; t < 4; t++) {
                copy.gains[t] = gains[t].clone();
                copy.counts[t] = counts[t].clone();
            }
            lists.forEach((key, list) -> copy.lists.put(key, new LinkedList<>(list)));
            places.forEach((key, line) -> copy.places.put(key, copyOf(line)));
            return copy;
        }

        private static Line copyOf(Line line) {
            Line copy = new Line();
            copy.tenant = line.tenant;
            copy.address = line.address;
            copy.stamp = line.stamp;
            return copy;
        }
    }

    private static final String COMMAND = "([0-3]:(0|[1-9]|[1-9][0-9]|1[0-9][0-9]|2[0-4][0-9]|25[0-5])|f[0-3]|m|h)";
    private static final Pattern VALID = Pattern.compile(COMMAND + "(;" + COMMAND + ")*");
    // One of these makes a valid text of each beginning of a valid text.
    private static final String[] ENDINGS = {"", "m", "0", ":0"};

    State state = new State();
    final List<State> saved = new ArrayList<>();
    final State[] slots = new State[2];
    String text = "";

    private void save() {
        saved.add(state.copy());
        if (saved.size() > 6) {
            saved.remove(0);
        }
    }

    // ---- accesses

    int access(int tenant, int address) {
        save();
        return makeAccess(tenant, address);
    }

    int stream(int tenant, int address, int step, int count) {
        save();
        int hits = 0;
        for (int i = 0, a = address; i < count; i++, a += step) {
            hits += makeAccess(tenant, a % 256) == 1 ? 1 : 0;
        }
        return hits;
    }

    int flush(int tenant) {
        save();
        return removeAll(tenant);
    }

    private int removeAll(int tenant) {
        int before = state.places.size();
        state.places.values().removeIf(line -> line.tenant == tenant);
        return before - state.places.size();
    }

    private int makeAccess(int tenant, int address) {
        int set = address % 4;
        if (set == 0 || set == 2) {
            updateMonitor(tenant, set, address);
        }
        state.accesses++;
        int c = state.accesses;
        int result = ifAccessed(tenant, address);
        state.counts[tenant][result]++;
        if (result == 1) {
            lineOf(tenant, address).stamp = c;
        }
        if (result == 0) {
            int way = wayToFill(tenant, set);
            Line line = new Line();
            line.tenant = tenant;
            line.address = address;
            line.stamp = c;
            Line evicted = state.places.put(10 * set + way, line);
            if (evicted != null) {
                state.counts[evicted.tenant][3]++;
            }
        }
        if (state.epoch != 0 && c % state.epoch == 0) {
            move();
            halve();
        }
        return result;
    }

    private void updateMonitor(int tenant, int set, int address) {
        LinkedList<Integer> list = state.lists.computeIfAbsent(10 * tenant + set, key -> new LinkedList<>());
        int p = list.indexOf(address);
        if (p >= 0) {
            state.gains[tenant][p]++;
            list.remove(p);
        }
        list.addFirst(address);
        if (list.size() == 9) {
            list.removeLast();
        }
    }

    private Line lineOf(int tenant, int address) {
        for (Line line : state.places.values()) {
            if (line.tenant == tenant && line.address == address) {
                return line;
            }
        }
        return null;
    }

    private int wayToFill(int tenant, int set) {
        int oldest = -1;
        for (int way = 0; way < 8; way++) {
            if (state.owner[way] == tenant && !state.places.containsKey(10 * set + way)) {
                return way;
            }
        }
        for (int way = 0; way < 8; way++) {
            if (state.owner[way] == tenant && (oldest < 0
                    || state.places.get(10 * set + way).stamp < state.places.get(10 * set + oldest).stamp)) {
                oldest = way;
            }
        }
        return oldest;
    }

    // ---- partition

    int moveWay() {
        save();
        return move();
    }

    private int move() {
        List<Integer> deficits = new ArrayList<>();
        for (int t = 0; t < 4; t++) {
            deficits.add(target(t) - waysOf(t));
        }
        int greatest = deficits.stream().max(Integer::compare).orElseThrow();
        int smallest = deficits.stream().min(Integer::compare).orElseThrow();
        if (greatest == 0) {
            return -1;
        }
        int receiver = deficits.indexOf(greatest);
        int donor = deficits.indexOf(smallest);
        for (long few = 0; few <= 4; few++) {
            for (int way = 0; way < 8; way++) {
                if (state.owner[way] == donor && linesIn(way, donor) == few) {
                    state.owner[way] = receiver;
                    return way;
                }
            }
        }
        throw new AssertionError("a donor owns a way");
    }

    private long linesIn(int way, int tenant) {
        return state.places.entrySet().stream()
                .filter(place -> place.getKey() % 10 == way && place.getValue().tenant == tenant).count();
    }

    int giveWay(int way, int tenant) {
        save();
        int before = state.owner[way];
        state.owner[way] = tenant;
        return before;
    }

    int setLeast(int tenant, int least) {
        save();
        int before = state.least[tenant];
        state.least[tenant] = least;
        return before;
    }

    int setEpoch(int accesses) {
        save();
        int before = state.epoch;
        state.epoch = accesses;
        return before;
    }

    int halveGains() {
        save();
        halve();
        int sum = 0;
        for (int t = 0; t < 4; t++) {
            sum += utility(t, 8);
        }
        return sum;
    }

    private void halve() {
        for (int[] row : state.gains) {
            for (int p = 0; p < 8; p++) {
                row[p] = row[p] / 2;
            }
        }
    }

    // ---- texts

    int appendText(int character) {
        if (text.length() == 80) {
            throw new IllegalStateException();
        }
        text += (char) character;
        return text.length();
    }

    int clearText() {
        int before = text.length();
        text = "";
        return before;
    }

    int errorPosition() {
        return errorPositionOf(text);
    }

    static int errorPositionOf(String text) {
        if (VALID.matcher(text).matches()) {
            return -1;
        }
        for (int i = 0; i < text.length(); i++) {
            if (!beginsValidText(text.substring(0, i + 1))) {
                return i;
            }
        }
        return text.length();
    }

    private static boolean beginsValidText(String beginning) {
        for (String ending : ENDINGS) {
            if (VALID.matcher(beginning + ending).matches()) {
                return true;
            }
        }
        return false;
    }

    int runText() {
        if (!VALID.matcher(text).matches()) {
            throw new IllegalStateException();
        }
        save();
        int hits = 0;
        for (String command : text.split(";")) {
            if (command.equals("m")) {
                move();
            } else if (command.equals("h")) {
                halve();
            } else if (command.startsWith("f")) {
                removeAll(Integer.parseInt(command.substring(1)));
            } else {
                String[] parts = command.split(":");
                hits += makeAccess(Integer.parseInt(parts[0]), Integer.parseInt(parts[1])) == 1 ? 1 : 0;
            }
        }
        return hits;
    }

    // ---- undo and slots

    int undo() {
        if (saved.isEmpty()) {
            throw new IllegalStateException();
        }
        state = saved.remove(saved.size() - 1);
        return saved.size();
    }

    int save(int slot) {
        slots[slot] = state.copy();
        return state.places.size();
    }

    int restore(int slot) {
        if (slots[slot] == null) {
            throw new IllegalStateException();
        }
        save();
        state = slots[slot].copy();
        return state.places.size();
    }

    // ---- queries

    int waysOf(int tenant) {
        int ways = 0;
        for (int owner : state.owner) {
            ways += owner == tenant ? 1 : 0;
        }
        return ways;
    }

    int line(int set, int way) {
        Line line = state.places.get(10 * set + way);
        return line == null ? -1 : 256 * line.tenant + line.address;
    }

    int lines(int tenant, boolean foreign) {
        return (int) state.places.entrySet().stream().filter(place -> place.getValue().tenant == tenant
                && (!foreign || state.owner[place.getKey() % 10] != tenant)).count();
    }

    int ifAccessed(int tenant, int address) {
        if (lineOf(tenant, address) != null) {
            return 1;
        }
        return waysOf(tenant) == 0 ? 2 : 0;
    }

    int victim(int tenant, int address) {
        return ifAccessed(tenant, address) == 0 ? line(address % 4, wayToFill(tenant, address % 4)) : -1;
    }

    int utility(int tenant, int ways) {
        int sum = 0;
        for (int p = 0; p < ways; p++) {
            sum += state.gains[tenant][p];
        }
        return sum;
    }

    int monitored(int tenant, int set, int position) {
        LinkedList<Integer> list = state.lists.get(10 * tenant + set);
        return list == null || position >= list.size() ? -1 : list.get(position);
    }

    int target(int tenant) {
        int[] targets = state.least.clone();
        int rest = 8 - targets[0] - targets[1] - targets[2] - targets[3];
        while (rest != 0) {
            // All rates times 840, which every k from 1 to 8 divides, are whole numbers.
            int greatest = 0;
            int who = -1;
            int by = 0;
            for (int t = 0; t < 4; t++) {
                for (int k = 1; k <= rest && targets[t] + k <= 8; k++) {
                    int rate = 840 * (utility(t, targets[t] + k) - utility(t, targets[t])) / k;
                    if (rate > greatest) {
                        greatest = rate;
                        who = t;
                        by = k;
                    }
                }
            }
            if (who < 0) {
                who = 0;
                by = 1;
                for (int t = 0; t < 4; t++) {
                    who = targets[t] < targets[who] ? t : who;
                }
            }
            targets[who] += by;
            rest -= by;
        }
        return targets[tenant];
    }

    int movesLeft() {
        int sum = 0;
        for (int t = 0; t < 4; t++) {
            sum += Math.max(0, target(t) - waysOf(t));
        }
        return sum;
    }

    int totalUtility() {
        int sum = 0;
        for (int t = 0; t < 4; t++) {
            sum += utility(t, waysOf(t));
        }
        return sum;
    }

    double hitRate(int tenant) {
        int[] row = state.counts[tenant];
        int made = row[0] + row[1] + row[2];
        return made == 0 ? 0.0 : (double) row[1] / (double) made;
    }
}
