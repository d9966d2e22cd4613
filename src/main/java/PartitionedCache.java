/** A set-associative cache that four tenants share by ways; README.md tells how it is used. */
public final class PartitionedCache {
    public static final int NONE = -1;
    public static final int MISS = 0, HIT = 1, BYPASS = 2;

    // Stands behind the three results in the row of a tenant's counts.
    private static final int EVICTED = 3;

    private static final int TENANTS = 4, SETS = 4, WAYS = 8, ADDRESSES = 256;
    private static final int PLACES = SETS * WAYS;
    private static final int SAMPLED_SETS = 2, POSITIONS = 8;
    private static final int COUNTS = 4;
    private static final int GREATEST_LEAST = 2, GREATEST_EPOCH = 200;
    private static final int GREATEST_STEP = 64, GREATEST_STREAM = 40;
    private static final int SAVED_STATES = 6, SLOTS = 2, TEXT_LIMIT = 80;

    private final State now = new State();
    private final Targets targets = new Targets();
    private final History history = new History();
    private final CommandText text = new CommandText();
    private final State[] slots = new State[SLOTS];
    private final boolean[] slotFilled = new boolean[SLOTS];

    public PartitionedCache() {
        for (int slot = 0; slot < SLOTS; slot++) {
            slots[slot] = new State();
        }
    }

    // ---- accesses

    public int access(int tenant, int address) throws IndexOutOfBoundsException, IllegalArgumentException {
        requireTenant(tenant);
        requireArgument(address, 0, ADDRESSES - 1);
        history.push(now);
        return makeAccess(tenant, address);
    }

    public int stream(int tenant, int address, int step, int count)
            throws IndexOutOfBoundsException, IllegalArgumentException {
        requireTenant(tenant);
        requireArgument(address, 0, ADDRESSES - 1);
        requireArgument(step, 1, GREATEST_STEP);
        requireArgument(count, 1, GREATEST_STREAM);
        history.push(now);
        int hits = 0;
        for (int i = 0; i < count; i++) {
            if (makeAccess(tenant, (address + i * step) % ADDRESSES) == HIT) {
                hits++;
            }
        }
        return hits;
    }

    public int flush(int tenant) throws IndexOutOfBoundsException {
        requireTenant(tenant);
        history.push(now);
        return now.places.removeLinesOf(tenant);
    }

    // ---- partition

    public int moveWay() {
        history.push(now);
        return moveOneWay();
    }

    public int giveWay(int way, int tenant) throws IndexOutOfBoundsException {
        requireIndex(way, WAYS);
        requireTenant(tenant);
        history.push(now);
        int previous = now.places.owners[way];
        now.places.owners[way] = tenant;
        return previous;
    }

    public int setLeast(int tenant, int least) throws IndexOutOfBoundsException, IllegalArgumentException {
        requireTenant(tenant);
        requireArgument(least, 0, GREATEST_LEAST);
        history.push(now);
        int previous = now.leasts[tenant];
        now.leasts[tenant] = least;
        return previous;
    }

    public int setEpoch(int accesses) throws IllegalArgumentException {
        requireArgument(accesses, 0, GREATEST_EPOCH);
        history.push(now);
        int previous = now.epoch;
        now.epoch = accesses;
        return previous;
    }

    public int halveGains() {
        history.push(now);
        now.monitors.halve();
        return now.monitors.sumOfGains();
    }

    // ---- texts

    public int appendText(int character) throws IllegalArgumentException, IllegalStateException {
        requireArgument(character, 32, 126);
        if (text.length >= TEXT_LIMIT) {
            throw new IllegalStateException("the text is full");
        }
        text.append((char) character);
        return text.length;
    }

    public int clearText() {
        int previous = text.length;
        text.length = 0;
        return previous;
    }

    public int errorPosition() {
        return text.firstError();
    }

    public int runText() throws IllegalStateException {
        if (text.firstError() != NONE) {
            throw new IllegalStateException("the text is not valid");
        }
        history.push(now);
        int hits = 0;
        for (int i = 0; i < text.length; i++) {
            if (text.commandBeginsAt(i) && runCommand(i) == HIT) {
                hits++;
            }
        }
        return hits;
    }

    // ---- undo and slots

    public int undo() throws IllegalStateException {
        if (history.size == 0) {
            throw new IllegalStateException("no state is saved");
        }
        history.popInto(now);
        return history.size;
    }

    public int save(int slot) throws IndexOutOfBoundsException {
        requireIndex(slot, SLOTS);
        slots[slot].copyFrom(now);
        slotFilled[slot] = true;
        return now.places.allLines();
    }

    public int restore(int slot) throws IndexOutOfBoundsException, IllegalStateException {
        requireIndex(slot, SLOTS);
        if (!slotFilled[slot]) {
            throw new IllegalStateException("the slot is empty");
        }
        history.push(now);
        now.copyFrom(slots[slot]);
        return now.places.allLines();
    }

    // ---- queries about the cache

    public int owner(int way) throws IndexOutOfBoundsException {
        requireIndex(way, WAYS);
        return now.places.owners[way];
    }

    public int waysOf(int tenant) throws IndexOutOfBoundsException {
        requireTenant(tenant);
        return now.places.ownedWays(tenant);
    }

    public int line(int set, int way) throws IndexOutOfBoundsException {
        requireIndex(set, SETS);
        requireIndex(way, WAYS);
        return now.places.held[set * WAYS + way];
    }

    public int lines(int tenant, boolean foreign) throws IndexOutOfBoundsException {
        requireTenant(tenant);
        int own = foreign ? now.places.linesInOwnWays(tenant) : 0;
        return now.places.linesOf(tenant) - own;
    }

    public int ifAccessed(int tenant, int address) throws IndexOutOfBoundsException, IllegalArgumentException {
        requireTenant(tenant);
        requireArgument(address, 0, ADDRESSES - 1);
        return now.places.resultOf(tenant, address);
    }

    public int victim(int tenant, int address) throws IndexOutOfBoundsException, IllegalArgumentException {
        requireTenant(tenant);
        requireArgument(address, 0, ADDRESSES - 1);
        if (now.places.resultOf(tenant, address) != MISS) {
            return NONE;
        }
        int place = now.places.placeToFill(tenant, address);
        return place == NONE ? NONE : now.places.held[place];
    }

    // ---- queries about gains and targets

    public int gain(int tenant, int position) throws IndexOutOfBoundsException {
        requireTenant(tenant);
        requireIndex(position, POSITIONS);
        return now.monitors.gains[tenant * POSITIONS + position];
    }

    public int utility(int tenant, int ways) throws IndexOutOfBoundsException, IllegalArgumentException {
        requireTenant(tenant);
        requireArgument(ways, 0, WAYS);
        return now.monitors.utilityOf(tenant, ways);
    }

    public int monitored(int tenant, int set, int position) throws IndexOutOfBoundsException {
        requireTenant(tenant);
        if (!isSampled(set)) {
            throw new IndexOutOfBoundsException("the set is not sampled");
        }
        requireIndex(position, POSITIONS);
        return now.monitors.addresses[listStart(tenant, set) + position];
    }

    public int target(int tenant) throws IndexOutOfBoundsException {
        requireTenant(tenant);
        targets.compute(now);
        return targets.ways[tenant];
    }

    public int movesLeft() {
        targets.compute(now);
        int moves = 0;
        for (int tenant = 0; tenant < TENANTS; tenant++) {
            moves += Math.max(deficitOf(tenant), 0);
        }
        return moves;
    }

    public int totalUtility() {
        int total = 0;
        for (int tenant = 0; tenant < TENANTS; tenant++) {
            total += now.monitors.utilityOf(tenant, now.places.ownedWays(tenant));
        }
        return total;
    }

    // ---- counts

    public int count(int tenant, int what) throws IndexOutOfBoundsException, IllegalArgumentException {
        requireTenant(tenant);
        requireArgument(what, 0, COUNTS - 1);
        return now.counts[tenant * COUNTS + what];
    }

    public int accesses() {
        return now.accesses;
    }

    public double hitRate(int tenant) throws IndexOutOfBoundsException {
        requireTenant(tenant);
        int row = tenant * COUNTS;
        int hits = now.counts[row + HIT];
        int made = hits + now.counts[row + MISS] + now.counts[row + BYPASS];
        return made == 0 ? 0.0 : (double) hits / (double) made;
    }

    public int savedStates() {
        return history.size;
    }

    public int textLength() {
        return text.length;
    }

    // ---- what the calls above share

    private static void requireTenant(int tenant) {
        requireIndex(tenant, TENANTS);
    }

    private static void requireIndex(int index, int bound) {
        if (index < 0 || index >= bound) {
            throw new IndexOutOfBoundsException("no such tenant, way, set, position or slot");
        }
    }

    private static void requireArgument(int value, int smallest, int greatest) {
        if (value < smallest || value > greatest) {
            throw new IllegalArgumentException("the number is out of range");
        }
    }

    private static boolean isSampled(int set) {
        return set == 0 || set == 2;
    }

    private static int listStart(int tenant, int sampledSet) {
        return (tenant * SAMPLED_SETS + sampledSet / 2) * POSITIONS;
    }

    private int makeAccess(int tenant, int address) {
        now.monitors.note(tenant, address);
        now.accesses++;
        int result = now.places.resultOf(tenant, address);
        now.counts[tenant * COUNTS + result]++;
        if (result == HIT) {
            now.places.renew(tenant, address, now.accesses);
        } else if (result == MISS) {
            bringIn(tenant, address);
        }
        if (now.epoch != 0 && now.accesses % now.epoch == 0) {
            moveOneWay();
            now.monitors.halve();
        }
        return result;
    }

    private void bringIn(int tenant, int address) {
        int place = now.places.placeToFill(tenant, address);
        if (place == NONE) {
            return;
        }
        // A foreign line may stand here, so the eviction is counted for the line's own tenant.
        for (int loser = 0; loser < TENANTS; loser++) {
            if (now.places.holdsLineOf(loser, place)) {
                now.counts[loser * COUNTS + EVICTED]++;
            }
        }
        now.places.held[place] = tenant * ADDRESSES + address;
        now.places.stamps[place] = now.accesses;
    }

    private int moveOneWay() {
        targets.compute(now);
        int receiver = 0;
        int donor = 0;
        for (int tenant = 1; tenant < TENANTS; tenant++) {
            if (deficitOf(tenant) > deficitOf(receiver)) {
                receiver = tenant;
            }
            if (deficitOf(tenant) < deficitOf(donor)) {
                donor = tenant;
            }
        }
        if (deficitOf(receiver) == 0) {
            return NONE;
        }
        int way = now.places.wayWithFewestLines(donor);
        if (way != NONE) {
            now.places.owners[way] = receiver;
        }
        return way;
    }

    /** Holds for the targets that were computed last. */
    private int deficitOf(int tenant) {
        return targets.ways[tenant] - now.places.ownedWays(tenant);
    }

    /** Returns the result of the command that begins at start if it is an access, else NONE. */
    private int runCommand(int start) {
        int first = text.signAt(start);
        if (first == 'm') {
            moveOneWay();
        } else if (first == 'h') {
            now.monitors.halve();
        } else if (first == 'f') {
            now.places.removeLinesOf(text.signAt(start + 1) - '0');
        } else {
            int tenant = first - '0';
            int address = text.numberAt(start + 2);
            if (tenant >= 0 && tenant < TENANTS && address >= 0 && address < ADDRESSES) {
                return makeAccess(tenant, address);
            }
        }
        return NONE;
    }

    /** Who owns which way, and which line stands in which place. */
    private static final class Places {
        final int[] owners = new int[WAYS];
        // 256 * tenant + address of the line, or NONE; a set's places stand side by side.
        final int[] held = new int[PLACES];
        final int[] stamps = new int[PLACES];

        Places() {
            for (int way = 0; way < WAYS; way++) {
                owners[way] = way % TENANTS;
            }
            for (int place = 0; place < PLACES; place++) {
                held[place] = NONE;
            }
        }

        void copyFrom(Places other) {
            System.arraycopy(other.owners, 0, owners, 0, WAYS);
            System.arraycopy(other.held, 0, held, 0, PLACES);
            System.arraycopy(other.stamps, 0, stamps, 0, PLACES);
        }

        int ownedWays(int tenant) {
            int ways = 0;
            for (int way = 0; way < WAYS; way++) {
                if (owners[way] == tenant) {
                    ways++;
                }
            }
            return ways;
        }

        int resultOf(int tenant, int address) {
            if (placeOf(tenant, address) != NONE) {
                return HIT;
            }
            return ownedWays(tenant) == 0 ? BYPASS : MISS;
        }

        int placeOf(int tenant, int address) {
            int first = address % SETS * WAYS;
            for (int way = 0; way < WAYS; way++) {
                if (held[first + way] == tenant * ADDRESSES + address) {
                    return first + way;
                }
            }
            return NONE;
        }

        void renew(int tenant, int address, int stamp) {
            int place = placeOf(tenant, address);
            if (place != NONE) {
                stamps[place] = stamp;
            }
        }

        /** Returns NONE only if the tenant owns no way. */
        int placeToFill(int tenant, int address) {
            int first = address % SETS * WAYS;
            int oldest = NONE;
            for (int way = 0; way < WAYS; way++) {
                int place = first + way;
                if (owners[way] != tenant) {
                    continue;
                }
                if (held[place] == NONE) {
                    return place;
                }
                if (oldest == NONE || stamps[place] < stamps[oldest]) {
                    oldest = place;
                }
            }
            return oldest;
        }

        boolean holdsLineOf(int tenant, int place) {
            return held[place] != NONE && held[place] / ADDRESSES == tenant;
        }

        int linesInWay(int tenant, int way) {
            int found = 0;
            for (int set = 0; set < SETS; set++) {
                if (holdsLineOf(tenant, set * WAYS + way)) {
                    found++;
                }
            }
            return found;
        }

        int linesOf(int tenant) {
            int found = 0;
            for (int way = 0; way < WAYS; way++) {
                found += linesInWay(tenant, way);
            }
            return found;
        }

        int linesInOwnWays(int tenant) {
            int found = 0;
            for (int way = 0; way < WAYS; way++) {
                if (owners[way] == tenant) {
                    found += linesInWay(tenant, way);
                }
            }
            return found;
        }

        int allLines() {
            int found = 0;
            for (int tenant = 0; tenant < TENANTS; tenant++) {
                found += linesOf(tenant);
            }
            return found;
        }

        int removeLinesOf(int tenant) {
            int removed = 0;
            for (int place = 0; place < PLACES; place++) {
                if (holdsLineOf(tenant, place)) {
                    held[place] = NONE;
                    removed++;
                }
            }
            return removed;
        }

        /** Looks among the ways of the tenant alone; NONE if it owns none. */
        int wayWithFewestLines(int tenant) {
            int best = NONE;
            int fewest = SETS + 1;
            for (int way = 0; way < WAYS; way++) {
                if (owners[way] == tenant && linesInWay(tenant, way) < fewest) {
                    best = way;
                    fewest = linesInWay(tenant, way);
                }
            }
            return best;
        }
    }

    /** The lists of the sampled sets, and the gains. */
    private static final class Monitors {
        // A list that is not full ends with NONE in each position left.
        final int[] addresses = new int[TENANTS * SAMPLED_SETS * POSITIONS];
        final int[] gains = new int[TENANTS * POSITIONS];

        Monitors() {
            for (int i = 0; i < addresses.length; i++) {
                addresses[i] = NONE;
            }
        }

        void copyFrom(Monitors other) {
            System.arraycopy(other.addresses, 0, addresses, 0, addresses.length);
            System.arraycopy(other.gains, 0, gains, 0, gains.length);
        }

        void note(int tenant, int address) {
            int set = address % SETS;
            if (!isSampled(set)) {
                return;
            }
            int start = listStart(tenant, set);
            int last = POSITIONS - 1;
            for (int position = 0; position < POSITIONS; position++) {
                if (addresses[start + position] == address) {
                    gains[tenant * POSITIONS + position]++;
                    last = position;
                }
            }
            for (int position = last; position > 0; position--) {
                addresses[start + position] = addresses[start + position - 1];
            }
            addresses[start] = address;
        }

        int utilityOf(int tenant, int ways) {
            int sum = 0;
            for (int position = 0; position < POSITIONS && position < ways; position++) {
                sum += gains[tenant * POSITIONS + position];
            }
            return sum;
        }

        int sumOfGains() {
            int sum = 0;
            for (int i = 0; i < gains.length; i++) {
                sum += gains[i];
            }
            return sum;
        }

        void halve() {
            for (int i = 0; i < gains.length; i++) {
                gains[i] /= 2;
            }
        }
    }

    /** All that undo and the slots keep. */
    private static final class State {
        final Places places = new Places();
        final Monitors monitors = new Monitors();
        final int[] leasts = new int[TENANTS];
        final int[] counts = new int[TENANTS * COUNTS];
        int epoch = 0;
        int accesses = 0;

        State() {
            for (int tenant = 0; tenant < TENANTS; tenant++) {
                leasts[tenant] = 1;
            }
        }

        void copyFrom(State other) {
            places.copyFrom(other.places);
            monitors.copyFrom(other.monitors);
            System.arraycopy(other.leasts, 0, leasts, 0, leasts.length);
            System.arraycopy(other.counts, 0, counts, 0, counts.length);
            epoch = other.epoch;
            accesses = other.accesses;
        }
    }

    /** The targets of one state; they are computed anew when they are asked for. */
    private static final class Targets {
        final int[] ways = new int[TENANTS];

        void compute(State state) {
            int rest = WAYS;
            for (int tenant = 0; tenant < TENANTS; tenant++) {
                ways[tenant] = state.leasts[tenant];
                rest -= ways[tenant];
            }
            for (int round = 0; round < WAYS && rest > 0; round++) {
                rest -= growOne(state.monitors, rest);
            }
        }

        /** Returns by how many ways a target has grown. */
        private int growOne(Monitors monitors, int rest) {
            int bestTenant = NONE;
            int bestExtra = 1;
            int bestGained = 0;
            for (int tenant = 0; tenant < TENANTS; tenant++) {
                int gained = 0;
                for (int extra = 1; extra <= rest && ways[tenant] + extra <= WAYS; extra++) {
                    gained += monitors.gains[tenant * POSITIONS + ways[tenant] + extra - 1];
                    // gained / extra > bestGained / bestExtra, without rounding
                    if (gained * bestExtra > bestGained * extra) {
                        bestTenant = tenant;
                        bestExtra = extra;
                        bestGained = gained;
                    }
                }
            }
            ways[bestTenant == NONE ? lowest() : bestTenant] += bestExtra;
            return bestExtra;
        }

        private int lowest() {
            int best = 0;
            for (int tenant = 1; tenant < TENANTS; tenant++) {
                if (ways[tenant] < ways[best]) {
                    best = tenant;
                }
            }
            return best;
        }
    }

    /** The states that undo goes back to: a ring whose rows are made once and written over. */
    private static final class History {
        final State[] ring = new State[SAVED_STATES];
        int oldest = 0;
        int size = 0;

        History() {
            for (int i = 0; i < SAVED_STATES; i++) {
                ring[i] = new State();
            }
        }

        void push(State state) {
            ring[(oldest + size) % SAVED_STATES].copyFrom(state);
            if (size < SAVED_STATES) {
                size++;
            } else {
                oldest = (oldest + 1) % SAVED_STATES;
            }
        }

        void popInto(State state) {
            if (size > 0) {
                size--;
                state.copyFrom(ring[(oldest + size) % SAVED_STATES]);
            }
        }
    }

    /** The text buffer and the grammar of section 6. */
    private static final class CommandText {
        // What the sign before has left open.
        private static final int WRONG = 0, AT_COMMAND = 1, AT_COLON = 2, AT_NUMBER = 3,
                IN_NUMBER = 4, AT_FLUSHED = 5, AT_END = 6;

        final char[] signs = new char[TEXT_LIMIT];
        int length = 0;

        void append(char sign) {
            if (length < TEXT_LIMIT) {
                signs[length] = sign;
                length++;
            }
        }

        int signAt(int index) {
            return index >= 0 && index < length && index < TEXT_LIMIT ? signs[index] : NONE;
        }

        boolean commandBeginsAt(int index) {
            return index == 0 || signAt(index - 1) == ';';
        }

        int numberAt(int start) {
            int number = 0;
            for (int i = start; i < length && isDigit(signAt(i)); i++) {
                number = number * 10 + signAt(i) - '0';
            }
            return number;
        }

        int firstError() {
            int stage = AT_COMMAND;
            int number = 0;
            for (int i = 0; i < length; i++) {
                int sign = signAt(i);
                int before = stage;
                stage = stageAfter(before, number, sign);
                if (stage == WRONG) {
                    return i;
                }
                if (stage == IN_NUMBER) {
                    number = (before == IN_NUMBER ? number * 10 : 0) + sign - '0';
                }
            }
            return stage == IN_NUMBER || stage == AT_END ? NONE : length;
        }

        private static int stageAfter(int stage, int number, int sign) {
            switch (stage) {
                case AT_COMMAND:
                    return stageAfterFirst(sign);
                case AT_COLON:
                    return sign == ':' ? AT_NUMBER : WRONG;
                case AT_NUMBER:
                    return isDigit(sign) ? IN_NUMBER : WRONG;
                case IN_NUMBER:
                    if (sign == ';') {
                        return AT_COMMAND;
                    }
                    return isDigit(sign) && mayGoOn(number, sign - '0') ? IN_NUMBER : WRONG;
                case AT_FLUSHED:
                    return isTenantDigit(sign) ? AT_END : WRONG;
                case AT_END:
                    return sign == ';' ? AT_COMMAND : WRONG;
                default:
                    return WRONG;
            }
        }

        private static int stageAfterFirst(int sign) {
            if (isTenantDigit(sign)) {
                return AT_COLON;
            }
            if (sign == 'f') {
                return AT_FLUSHED;
            }
            return sign == 'm' || sign == 'h' ? AT_END : WRONG;
        }

        /** A number that is 0 so far would get a leading zero. */
        private static boolean mayGoOn(int number, int digit) {
            return number != 0 && number * 10 + digit < ADDRESSES;
        }

        private static boolean isDigit(int sign) {
            return sign >= '0' && sign <= '9';
        }

        private static boolean isTenantDigit(int sign) {
            return sign >= '0' && sign < '0' + TENANTS;
        }
    }
}
