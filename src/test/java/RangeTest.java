/**
 * For each parameter of each call: the least and the greatest value are taken, and do what they say; the values
 * one below and one above, and values far outside, are refused by the exception of that parameter.
 */
final class RangeTest {
    /** A call with one argument that is varied. */
    private interface Use {
        Object of(CountedCache x, int value);
    }

    private static final String BOUNDS = Refusals.OUT_OF_BOUNDS;
    private static final String ARGUMENT = Refusals.BAD_ARGUMENT;

    public static void main(String[] args) {
        accessTenant();
        accessAddress();
        streamTenant();
        streamAddress();
        streamStep();
        streamCount();
        flushTenant();
        giveWayWay();
        giveWayTenant();
        setLeastTenant();
        setLeastLeast();
        setEpochAccesses();
        appendTextCharacter();
        saveSlot();
        restoreSlot();
        ownerWay();
        waysOfTenant();
        lineSet();
        lineWay();
        linesTenant();
        linesTenantForeign();
        ifAccessedTenant();
        ifAccessedAddress();
        victimTenant();
        victimAddress();
        gainTenant();
        gainPosition();
        utilityTenant();
        utilityWays();
        monitoredTenant();
        monitoredSet();
        monitoredPosition();
        targetTenant();
        countTenant();
        countWhat();
        hitRateTenant();
        Checks.end("RangeTest");
    }

    /** Looks at least and greatest on objects of the setup, and at what lies outside. */
    private static void range(String what, String exception, int least, int greatest, Refusals.Setup setup,
            Object[] due, Use use) {
        Checks.due(what + " " + least, Checks.outcome(() -> use.of(setup.make(), least)), due[0]);
        Checks.due(what + " " + greatest, Checks.outcome(() -> use.of(setup.make(), greatest)), due[1]);
        // The last five are in the range when bits are lost or signs ignored.
        int[] outside = {least - 1, greatest + 1, Integer.MIN_VALUE, Integer.MAX_VALUE, least - 256, greatest + 256,
            least + 65536, Integer.MIN_VALUE + greatest, -greatest - 1};
        for (int value : outside) {
            Refusals.refused(what + " " + value, exception, x -> use.of(x, value));
        }
    }

    private static Object[] both(Object ofLeast, Object ofGreatest) {
        return new Object[] {ofLeast, ofGreatest};
    }

    // ---- accesses

    private static void accessTenant() {
        range("access: tenant", BOUNDS, 0, 3, CountedCache::new, both("0 254", "0 1022"),
                (x, tenant) -> x.access(tenant, 254) + " " + x.line(2, tenant));
    }

    private static void accessAddress() {
        range("access: address", ARGUMENT, 0, 255, CountedCache::new, both("0 512", "0 767"),
                (x, address) -> x.access(2, address) + " " + x.line(address % 4, 2));
    }

    private static void streamTenant() {
        range("stream: tenant", BOUNDS, 0, 3, CountedCache::new, both("0 8", "0 776"),
                (x, tenant) -> x.stream(tenant, 8, 1, 1) + " " + x.line(0, tenant));
    }

    private static void streamAddress() {
        range("stream: address", ARGUMENT, 0, 255, CountedCache::new, both("0 256", "0 511"),
                (x, address) -> x.stream(1, address, 1, 1) + " " + x.line(address % 4, 1));
    }

    private static void streamStep() {
        // 0, 1, 2 stand in three sets; 0, 64, 128 in one, of which two stay
        range("stream: step", ARGUMENT, 1, 64, CountedCache::new, both("0 3 1", "0 2 1"),
                (x, step) -> x.stream(0, 0, step, 3) + " " + x.lines(0, false) + " " + x.ifAccessed(0, 2 * step));
    }

    private static void streamCount() {
        range("stream: count", ARGUMENT, 1, 40, CountedCache::new, both("0 1", "0 40"),
                (x, count) -> x.stream(0, 0, 4, count) + " " + x.accesses());
    }

    private static CountedCache oneLineEach() {
        CountedCache x = new CountedCache();
        for (int tenant = 0; tenant < 4; tenant++) {
            x.access(tenant, 12);
        }
        return x;
    }

    private static void flushTenant() {
        range("flush: tenant", BOUNDS, 0, 3, RangeTest::oneLineEach,
                both("1 -1 268 524 780 -1 -1 -1 -1", "1 12 268 524 -1 -1 -1 -1 -1"),
                (x, tenant) -> x.flush(tenant) + " " + Checks.linesOfSet(x, 0));
    }

    // ---- partition

    private static void giveWayWay() {
        range("giveWay: way", BOUNDS, 0, 7, CountedCache::new, both("0 11230123", "3 01230121"),
                (x, way) -> x.giveWay(way, 1) + " " + Checks.ownersOf(x));
    }

    private static void giveWayTenant() {
        range("giveWay: tenant", BOUNDS, 0, 3, CountedCache::new, both("1 00230123", "1 03230123"),
                (x, tenant) -> x.giveWay(1, tenant) + " " + Checks.ownersOf(x));
    }

    private static void setLeastTenant() {
        range("setLeast: tenant", BOUNDS, 0, 3, CountedCache::new, both("1 2", "1 2"),
                (x, tenant) -> x.setLeast(tenant, 2) + " " + x.setLeast(tenant, 1));
    }

    private static void setLeastLeast() {
        range("setLeast: least", ARGUMENT, 0, 2, CountedCache::new, both("1 0", "1 2"),
                (x, least) -> x.setLeast(1, least) + " " + x.setLeast(1, 1));
    }

    private static void setEpochAccesses() {
        range("setEpoch: accesses", ARGUMENT, 0, 200, CountedCache::new, both("0 0", "0 200"),
                (x, accesses) -> x.setEpoch(accesses) + " " + x.setEpoch(5));
    }

    // ---- texts, slots

    private static void appendTextCharacter() {
        range("appendText: character", ARGUMENT, 32, 126, CountedCache::new, both("1 1 0", "1 1 0"),
                (x, character) -> x.appendText(character) + " " + x.textLength() + " " + x.errorPosition());
    }

    private static CountedCache oneLineAndTwo() {
        CountedCache x = new CountedCache();
        x.access(0, 0);
        x.save(0);
        x.access(0, 1);
        x.save(1);
        x.access(0, 2);
        return x;
    }

    private static void saveSlot() {
        // the other slot keeps what it held
        range("save: slot", BOUNDS, 0, 1, RangeTest::oneLineAndTwo, both("3 3 2", "3 1 3"),
                (x, slot) -> x.save(slot) + " " + x.restore(0) + " " + x.restore(1));
    }

    private static void restoreSlot() {
        range("restore: slot", BOUNDS, 0, 1, RangeTest::oneLineAndTwo, both(1, 2), (x, slot) -> x.restore(slot));
    }

    // ---- queries about the cache

    private static void ownerWay() {
        range("owner: way", BOUNDS, 0, 7, CountedCache::new, both(0, 3), (x, way) -> x.owner(way));
    }

    private static CountedCache wayThreeGiven() {
        CountedCache x = new CountedCache();
        x.access(0, 0);
        x.stream(3, 0, 1, 2);
        x.giveWay(3, 0);
        return x;
    }

    private static void waysOfTenant() {
        range("waysOf: tenant", BOUNDS, 0, 3, RangeTest::wayThreeGiven, both(3, 1), (x, tenant) -> x.waysOf(tenant));
    }

    private static CountedCache linesAtTheCorners() {
        CountedCache x = new CountedCache();
        x.access(0, 8);
        x.access(0, 11);
        x.access(3, 0);
        x.access(3, 4);
        return x;
    }

    private static void lineSet() {
        range("line: set", BOUNDS, 0, 3, RangeTest::linesAtTheCorners, both(8, 11), (x, set) -> x.line(set, 0));
    }

    private static void lineWay() {
        range("line: way", BOUNDS, 0, 7, RangeTest::linesAtTheCorners, both(8, 772), (x, way) -> x.line(0, way));
    }

    private static void linesTenant() {
        range("lines: tenant, all", BOUNDS, 0, 3, RangeTest::wayThreeGiven, both(1, 2),
                (x, tenant) -> x.lines(tenant, false));
    }

    private static void linesTenantForeign() {
        range("lines: tenant, foreign", BOUNDS, 0, 3, RangeTest::wayThreeGiven, both(0, 2),
                (x, tenant) -> x.lines(tenant, true));
    }

    private static void ifAccessedTenant() {
        range("ifAccessed: tenant", BOUNDS, 0, 3, RangeTest::linesAtTheCorners, both(0, 1),
                (x, tenant) -> x.ifAccessed(tenant, 4));
    }

    private static CountedCache leastAndGreatestAddress() {
        CountedCache x = new CountedCache();
        x.access(1, 4);
        x.access(1, 8);
        x.access(1, 3);
        x.access(1, 255);
        return x;
    }

    private static void ifAccessedAddress() {
        range("ifAccessed: address", ARGUMENT, 0, 255, RangeTest::leastAndGreatestAddress, both(0, 1),
                (x, address) -> x.ifAccessed(1, address));
    }

    private static CountedCache fullWaysOfTwoTenants() {
        CountedCache x = new CountedCache();
        x.stream(0, 0, 4, 2);
        x.stream(3, 4, 4, 2);
        return x;
    }

    private static void victimTenant() {
        range("victim: tenant", BOUNDS, 0, 3, RangeTest::fullWaysOfTwoTenants, both(0, 772),
                (x, tenant) -> x.victim(tenant, 16));
    }

    private static CountedCache fullWaysInTwoSets() {
        CountedCache x = new CountedCache();
        x.stream(1, 4, 4, 2);
        x.stream(1, 3, 4, 2);
        return x;
    }

    private static void victimAddress() {
        range("victim: address", ARGUMENT, 0, 255, RangeTest::fullWaysInTwoSets, both(260, 259),
                (x, address) -> x.victim(1, address));
    }

    // ---- queries about gains and targets, counts

    private static CountedCache gainsOfTwoTenants() {
        CountedCache x = new CountedCache();
        Checks.giveGain(x, 0, 0, 1);
        Checks.giveGain(x, 3, 0, 2);
        return x;
    }

    private static void gainTenant() {
        range("gain: tenant", BOUNDS, 0, 3, RangeTest::gainsOfTwoTenants, both(1, 2), (x, tenant) -> x.gain(tenant, 0));
    }

    private static CountedCache gainsAtBothEnds() {
        CountedCache x = new CountedCache();
        Checks.giveGain(x, 2, 0, 2);
        Checks.giveGain(x, 2, 7, 1);
        return x;
    }

    private static void gainPosition() {
        range("gain: position", BOUNDS, 0, 7, RangeTest::gainsAtBothEnds, both(2, 1),
                (x, position) -> x.gain(2, position));
    }

    private static void utilityTenant() {
        range("utility: tenant", BOUNDS, 0, 3, RangeTest::gainsOfTwoTenants, both(1, 2),
                (x, tenant) -> x.utility(tenant, 1));
    }

    private static void utilityWays() {
        range("utility: ways", ARGUMENT, 0, 8, RangeTest::gainsAtBothEnds, both(0, 3), (x, ways) -> x.utility(2, ways));
    }

    private static CountedCache listsOfTwoTenants() {
        CountedCache x = new CountedCache();
        x.access(0, 4);
        x.access(0, 6);
        x.access(3, 8);
        return x;
    }

    private static void monitoredTenant() {
        range("monitored: tenant", BOUNDS, 0, 3, RangeTest::listsOfTwoTenants, both(4, 8),
                (x, tenant) -> x.monitored(tenant, 0, 0));
    }

    private static void monitoredSet() {
        range("monitored: set", BOUNDS, 0, 2, RangeTest::listsOfTwoTenants, both(4, 6),
                (x, set) -> x.monitored(0, set, 0));
        for (int notSampled : new int[] {1, 3, 4}) {
            Refusals.refused("monitored: set " + notSampled, BOUNDS, x -> x.monitored(0, notSampled, 0));
        }
    }

    private static CountedCache listOfEight() {
        CountedCache x = new CountedCache();
        x.stream(1, 2, 4, 8);
        return x;
    }

    private static void monitoredPosition() {
        range("monitored: position, set 0", BOUNDS, 0, 7, RangeTest::listOfEight, both(-1, -1),
                (x, position) -> x.monitored(1, 0, position));
        range("monitored: position, set 2", BOUNDS, 0, 7, RangeTest::listOfEight, both(30, 2),
                (x, position) -> x.monitored(1, 2, position));
    }

    private static CountedCache targetOfThree() {
        CountedCache x = new CountedCache();
        Checks.giveGain(x, 0, 2, 3);
        return x;
    }

    private static void targetTenant() {
        range("target: tenant", BOUNDS, 0, 3, RangeTest::targetOfThree, both(3, 1), (x, tenant) -> x.target(tenant));
    }

    private static CountedCache missesOfTwoTenants() {
        CountedCache x = new CountedCache();
        x.access(0, 0);
        x.stream(3, 0, 4, 3);
        return x;
    }

    private static void countTenant() {
        range("count: tenant", BOUNDS, 0, 3, RangeTest::missesOfTwoTenants, both(1, 3),
                (x, tenant) -> x.count(tenant, 0));
    }

    private static void countWhat() {
        range("count: what", ARGUMENT, 0, 3, RangeTest::missesOfTwoTenants, both(3, 1), (x, what) -> x.count(3, what));
    }

    private static CountedCache hitsOfTwoTenants() {
        CountedCache x = new CountedCache();
        x.access(0, 0);
        x.access(0, 0);
        x.access(3, 1);
        x.access(3, 1);
        x.access(3, 1);
        return x;
    }

    private static void hitRateTenant() {
        range("hitRate: tenant", BOUNDS, 0, 3, RangeTest::hitsOfTwoTenants, both(0.5, 2.0 / 3.0),
                (x, tenant) -> x.hitRate(tenant));
    }
}
