/** A PartitionedCache that counts its calls: what an object answers after its 512th call is not promised. */
final class CountedCache {
    static final int MOST_CALLS = 512;

    private final PartitionedCache cache = new PartitionedCache();
    private int calls = 0;

    int callsLeft() {
        return MOST_CALLS - calls;
    }

    private PartitionedCache next() {
        calls++;
        if (calls > MOST_CALLS) {
            throw new AssertionError("the test is wrong: it calls an object a 513th time");
        }
        return cache;
    }

    int access(int tenant, int address) {
        return next().access(tenant, address);
    }

    int stream(int tenant, int address, int step, int count) {
        return next().stream(tenant, address, step, count);
    }

    int flush(int tenant) {
        return next().flush(tenant);
    }

    int moveWay() {
        return next().moveWay();
    }

    int giveWay(int way, int tenant) {
        return next().giveWay(way, tenant);
    }

    int setLeast(int tenant, int least) {
        return next().setLeast(tenant, least);
    }

    int setEpoch(int accesses) {
        return next().setEpoch(accesses);
    }

    int halveGains() {
        return next().halveGains();
    }

    int appendText(int character) {
        return next().appendText(character);
    }

    int clearText() {
        return next().clearText();
    }

    int errorPosition() {
        return next().errorPosition();
    }

    int runText() {
        return next().runText();
    }

    int undo() {
        return next().undo();
    }

    int save(int slot) {
        return next().save(slot);
    }

    int restore(int slot) {
        return next().restore(slot);
    }

    int owner(int way) {
        return next().owner(way);
    }

    int waysOf(int tenant) {
        return next().waysOf(tenant);
    }

    int line(int set, int way) {
        return next().line(set, way);
    }

    int lines(int tenant, boolean foreign) {
        return next().lines(tenant, foreign);
    }

    int ifAccessed(int tenant, int address) {
        return next().ifAccessed(tenant, address);
    }

    int victim(int tenant, int address) {
        return next().victim(tenant, address);
    }

    int gain(int tenant, int position) {
        return next().gain(tenant, position);
    }

    int utility(int tenant, int ways) {
        return next().utility(tenant, ways);
    }

    int monitored(int tenant, int set, int position) {
        return next().monitored(tenant, set, position);
    }

    int target(int tenant) {
        return next().target(tenant);
    }

    int movesLeft() {
        return next().movesLeft();
    }

    int totalUtility() {
        return next().totalUtility();
    }

    int count(int tenant, int what) {
        return next().count(tenant, what);
    }

    int accesses() {
        return next().accesses();
    }

    double hitRate(int tenant) {
        return next().hitRate(tenant);
    }

    int savedStates() {
        return next().savedStates();
    }

    int textLength() {
        return next().textLength();
    }
}
