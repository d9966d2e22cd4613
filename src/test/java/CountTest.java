/** Promises 29 to 33: count, accesses, hitRate, savedStates, textLength. */
final class CountTest {
    public static void main(String[] args) {
        counts();
        hitRates();
        lengths();
        Checks.end("CountTest");
    }

    private static void counts() {
        CountedCache x = new CountedCache();
        x.stream(0, 0, 4, 5);
        x.access(0, 16);
        x.giveWay(1, 0);
        x.giveWay(5, 0);
        x.access(1, 0);
        x.access(1, 0);
        Checks.due("count(0, MISS)", x.count(0, PartitionedCache.MISS), 5);
        Checks.due("count(0, HIT)", x.count(0, PartitionedCache.HIT), 1);
        Checks.due("count(0, BYPASS)", x.count(0, PartitionedCache.BYPASS), 0);
        Checks.due("count(0, 3)", x.count(0, 3), 3);
        Checks.due("count(1, BYPASS)", x.count(1, PartitionedCache.BYPASS), 2);
        Checks.due("count(1, MISS)", x.count(1, PartitionedCache.MISS), 0);
        Checks.due("count(3, MISS)", x.count(3, PartitionedCache.MISS), 0);
        Checks.due("accesses()", x.accesses(), 8);
        x.undo();
        Checks.due("count(1, BYPASS) after undo", x.count(1, PartitionedCache.BYPASS), 1);
        Checks.due("accesses() after undo", x.accesses(), 7);
    }

    private static void hitRates() {
        CountedCache x = new CountedCache();
        Checks.due("hitRate(0) of no access", x.hitRate(0), 0.0);
        x.access(0, 0);
        Checks.due("hitRate(0) of a miss", x.hitRate(0), 0.0);
        x.access(0, 0);
        x.access(0, 0);
        Checks.due("hitRate(0) of 2 in 3", x.hitRate(0), 2.0 / 3.0);
        x.giveWay(0, 1);
        x.giveWay(4, 1);
        x.access(0, 5);
        Checks.due("hitRate(0): bypasses are accesses", x.hitRate(0), 0.5);
        Checks.due("hitRate(1) of no access of its own", x.hitRate(1), 0.0);
        x.stream(2, 0, 4, 2);
        for (int i = 0; i < 3; i++) {
            x.access(2, 4);
        }
        x.stream(2, 8, 4, 6);
        Checks.due("hitRate(2)", x.hitRate(2), 3.0 / 11.0);
        x.flush(2);
        Checks.due("hitRate(2) after flush", x.hitRate(2), 3.0 / 11.0);
    }

    private static void lengths() {
        CountedCache x = new CountedCache();
        Checks.append(x, "abc");
        Checks.due("textLength()", x.textLength(), 3);
        Checks.due("savedStates()", x.savedStates(), 0);
        x.setEpoch(1);
        Checks.due("savedStates() after a call", x.savedStates(), 1);
        x.undo();
        Checks.due("savedStates() after undo", x.savedStates(), 0);
        for (int i = 0; i < 8; i++) {
            x.setEpoch(1);
        }
        Checks.due("savedStates() after eight calls", x.savedStates(), 6);
        Checks.due("textLength() all the while", x.textLength(), 3);
    }
}
