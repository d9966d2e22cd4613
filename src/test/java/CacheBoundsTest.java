/**
 * Sections 1 and 2, and promises 1 to 4 and 15 to 22, at their boundaries:
 * a sentence stands above the first test that holds to it.
 */
final class CacheBoundsTest {
    private static final int MISS = 0, HIT = 1, BYPASS = 2, EVICTED = 3;

    public static void main(String[] args) {
        firstOwners();
        firstPlaces();
        lineOfTheLeastCode();
        lineOfTheGreatestCode();
        setsOfAddresses();
        sameAddressOfAllTenants();
        neighbouringCodes();
        foreignByOwnerAlone();

        emptyPlaceWithTheLowestWay();
        emptyPlaceBehindFullWays();
        otherTenantsEmptyPlacesAreNotUsed();
        foreignLineFillsAWay();
        oneWay();
        noWay();
        noWayButALine();
        eightWays();
        fullCache();
        evictsTheLeastStamp();
        hitRenewsTheStamp();
        hitOfAForeignLineRenewsTheStamp();
        evictionCountsForTheLinesTenant();
        missInAnEmptyPlaceEvictsNothing();
        evictedLineIsGone();

        streamEndsAtTheGreatestAddress();
        streamGoesPastTheGreatestAddress();
        streamGoesPastItTenTimes();
        streamOfOne();
        streamOfForty();
        streamOfFortyHits();
        streamWithoutWays();

        flushOfNone();
        flushOfAllPlaces();
        flushOfForeignLines();
        flushWithoutWays();
        flushedPlaceIsFilledAgain();

        waysOfNoneAndAll();
        linesOfNoneAndAll();
        saveAndRestoreOfEmptyAndFull();
        ifAccessedAtItsEdges();
        victimOfAHit();
        victimOfABypass();
        victimWithAnEmptyPlace();
        victimIsWhatTheMissEvicts();
        Checks.end("CacheBoundsTest");
    }

    // ---- section 1

    /** "at first the way w is owned by the tenant w modulo 4" */
    private static void firstOwners() {
        Checks.due("first owners", Checks.ownersOf(new CountedCache()), "01230123");
    }

    /** "At first all places are empty." */
    private static void firstPlaces() {
        CountedCache x = new CountedCache();
        for (int set = 0; set < 4; set++) {
            Checks.due("first lines of set " + set, Checks.linesOfSet(x, set), "-1 -1 -1 -1 -1 -1 -1 -1");
        }
    }

    /** "256 * tenant + address of the line; NONE if the place is empty": 0 is a line. */
    private static void lineOfTheLeastCode() {
        CountedCache x = new CountedCache();
        Checks.due("least code: access(0, 0)", x.access(0, 0), MISS);
        Checks.due("least code: line(0, 0)", x.line(0, 0), 0);
        Checks.due("least code: lines(0, false)", x.lines(0, false), 1);
        Checks.due("least code: ifAccessed(0, 0)", x.ifAccessed(0, 0), HIT);
        x.access(0, 4);
        Checks.due("least code: victim(0, 8)", x.victim(0, 8), 0);
        Checks.due("least code: save(0)", x.save(0), 2);
        Checks.due("least code: flush(0)", x.flush(0), 2);
    }

    /** "A line has a tenant, an address from 0 to 255, and a stamp." */
    private static void lineOfTheGreatestCode() {
        CountedCache x = new CountedCache();
        Checks.due("greatest code: access(3, 255)", x.access(3, 255), MISS);
        Checks.due("greatest code: line(3, 3)", x.line(3, 3), 1023);
        Checks.due("greatest code: ifAccessed(3, 255)", x.ifAccessed(3, 255), HIT);
        Checks.due("greatest code: flush(2)", x.flush(2), 0);
        Checks.due("greatest code: flush(3)", x.flush(3), 1);
    }

    /** "A line with the address a is always in the set a modulo 4." */
    private static void setsOfAddresses() {
        int[] addresses = {0, 1, 2, 3, 4, 127, 128, 252, 253, 254, 255};
        int[] sets = {0, 1, 2, 3, 0, 3, 0, 0, 1, 2, 3};
        for (int i = 0; i < addresses.length; i++) {
            CountedCache x = new CountedCache();
            x.access(1, addresses[i]);
            for (int set = 0; set < 4; set++) {
                Checks.due("address " + addresses[i] + ": line(" + set + ", 1)", x.line(set, 1),
                        set == sets[i] ? 256 + addresses[i] : -1);
            }
        }
    }

    /** "The tenants do not share lines: ... addresses of different tenants are different things." */
    private static void sameAddressOfAllTenants() {
        CountedCache x = new CountedCache();
        for (int tenant = 0; tenant < 4; tenant++) {
            Checks.due("shared address: access(" + tenant + ", 1)", x.access(tenant, 1), MISS);
        }
        Checks.due("shared address: the set", Checks.linesOfSet(x, 1), "1 257 513 769 -1 -1 -1 -1");
        x.giveWay(0, 1);
        x.flush(1);
        Checks.due("shared address: tenant 0's line in a way of tenant 1", x.ifAccessed(1, 1), MISS);
        Checks.due("shared address: tenant 0's line", x.ifAccessed(0, 1), HIT);
    }

    /** The greatest address of a tenant and the least one of the next are different lines. */
    private static void neighbouringCodes() {
        CountedCache x = new CountedCache();
        x.access(0, 252);
        x.access(1, 0);
        Checks.due("neighbours: lines(0, false)", x.lines(0, false), 1);
        Checks.due("neighbours: lines(1, false)", x.lines(1, false), 1);
        Checks.due("neighbours: ifAccessed(0, 0)", x.ifAccessed(0, 0), MISS);
        Checks.due("neighbours: ifAccessed(1, 252)", x.ifAccessed(1, 252), MISS);
        Checks.due("neighbours: flush(1)", x.flush(1), 1);
        Checks.due("neighbours: line(0, 0)", x.line(0, 0), 252);
    }

    /** "A line is foreign if its way is not owned by its tenant." */
    private static void foreignByOwnerAlone() {
        CountedCache x = new CountedCache();
        x.access(2, 0);
        Checks.due("foreign: in an own way", x.lines(2, true), 0);
        x.giveWay(2, 3);
        Checks.due("foreign: in the way of another", x.lines(2, true), 1);
        Checks.due("foreign: not of the way's owner", x.lines(3, true), 0);
        x.giveWay(2, 2);
        Checks.due("foreign: in a way that came back", x.lines(2, true), 0);
    }

    // ---- section 2

    /** "into the empty one with the lowest way if one of these places is empty" */
    private static void emptyPlaceWithTheLowestWay() {
        CountedCache x = new CountedCache();
        x.giveWay(7, 1);
        x.giveWay(0, 1);
        x.access(1, 0);
        x.access(1, 4);
        x.access(1, 8);
        x.access(1, 12);
        Checks.due("lowest way: the order of filling", Checks.linesOfSet(x, 0), "256 260 -1 -1 -1 264 -1 268");
    }

    /** The empty places come before all lines, also the one in the last of the tenant's ways. */
    private static void emptyPlaceBehindFullWays() {
        CountedCache x = new CountedCache();
        x.access(3, 0);
        x.access(3, 4);
        x.giveWay(6, 3);
        x.access(3, 8);
        Checks.due("between full ways: the set", Checks.linesOfSet(x, 0), "-1 -1 -1 768 -1 -1 776 772");
        CountedCache y = new CountedCache();
        y.access(0, 0);
        y.access(0, 4);
        y.giveWay(7, 0);
        y.access(0, 8);
        Checks.due("behind full ways: the set", Checks.linesOfSet(y, 0), "0 -1 -1 -1 4 -1 -1 8");
    }

    /** "a place of the set whose way is owned by the tenant": the empty places of others are no help. */
    private static void otherTenantsEmptyPlacesAreNotUsed() {
        CountedCache x = new CountedCache();
        x.stream(0, 0, 4, 3);
        Checks.due("full own ways: the set", Checks.linesOfSet(x, 0), "8 -1 -1 -1 4 -1 -1 -1");
        Checks.due("full own ways: count(0, 3)", x.count(0, EVICTED), 1);
    }

    /** A foreign line stands in a place as any line does: the place is not empty. */
    private static void foreignLineFillsAWay() {
        CountedCache x = new CountedCache();
        x.access(0, 0);
        x.giveWay(0, 1);
        x.access(1, 0);
        Checks.due("foreign line: it is not written over", Checks.linesOfSet(x, 0), "0 256 -1 -1 -1 -1 -1 -1");
        x.access(1, 4);
        x.access(1, 8);
        Checks.due("foreign line: it goes when all own ways are full", Checks.linesOfSet(x, 0),
                "264 256 -1 -1 -1 260 -1 -1");
    }

    /** "if the tenant owns no way, the access is a bypass": with one way it is a miss. */
    private static void oneWay() {
        CountedCache x = new CountedCache();
        x.giveWay(3, 0);
        Checks.due("one way: access(3, 0)", x.access(3, 0), MISS);
        Checks.due("one way: access(3, 4)", x.access(3, 4), MISS);
        Checks.due("one way: access(3, 0) again", x.access(3, 0), MISS);
        Checks.due("one way: the set", Checks.linesOfSet(x, 0), "-1 -1 -1 -1 -1 -1 -1 768");
        Checks.due("one way: count(3, 3)", x.count(3, EVICTED), 2);
        Checks.due("one way: access(3, 0) at last", x.access(3, 0), HIT);
    }

    /** "Otherwise, if the tenant owns no way, the access is a bypass." The steps a and b are made. */
    private static void noWay() {
        CountedCache x = new CountedCache();
        x.giveWay(3, 0);
        x.giveWay(7, 0);
        Checks.due("no way: access(3, 0)", x.access(3, 0), BYPASS);
        Checks.due("no way: access(3, 0) again", x.access(3, 0), BYPASS);
        Checks.due("no way: lines(3, false)", x.lines(3, false), 0);
        Checks.due("no way: accesses()", x.accesses(), 2);
        Checks.due("no way: count(3, BYPASS)", x.count(3, BYPASS), 2);
        Checks.due("no way: count(3, MISS)", x.count(3, MISS), 0);
        Checks.due("no way: the monitor is updated", x.gain(3, 0), 1);
    }

    /** "holds a line with this tenant and this address (whoever owns its way), the access is a hit" */
    private static void noWayButALine() {
        CountedCache x = new CountedCache();
        x.access(3, 0);
        x.giveWay(3, 0);
        x.giveWay(7, 0);
        Checks.due("no way but a line: access(3, 0)", x.access(3, 0), HIT);
        Checks.due("no way but a line: access(3, 4)", x.access(3, 4), BYPASS);
        Checks.due("no way but a line: count(3, HIT)", x.count(3, HIT), 1);
    }

    /** "if one of these places is empty, otherwise": eight lines fill the set, the ninth evicts. */
    private static void eightWays() {
        CountedCache x = new CountedCache();
        Checks.giveWays(x, "22222222");
        x.stream(2, 0, 4, 8);
        Checks.due("eight ways: the full set", Checks.linesOfSet(x, 0), "512 516 520 524 528 532 536 540");
        Checks.due("eight ways: no eviction", x.count(2, EVICTED), 0);
        Checks.due("eight ways: victim(2, 32)", x.victim(2, 32), 512);
        Checks.due("eight ways: access(2, 32)", x.access(2, 32), MISS);
        Checks.due("eight ways: the ninth line", x.line(0, 0), 544);
        Checks.due("eight ways: one eviction", x.count(2, EVICTED), 1);
        Checks.due("eight ways: lines(2, false)", x.lines(2, false), 8);
    }

    private static CountedCache full() {
        CountedCache x = new CountedCache();
        for (int tenant = 0; tenant < 4; tenant++) {
            x.stream(tenant, 0, 1, 8);
        }
        return x;
    }

    /** All 32 places hold lines: each miss evicts one. */
    private static void fullCache() {
        CountedCache x = full();
        Checks.due("full: set 0", Checks.linesOfSet(x, 0), "0 256 512 768 4 260 516 772");
        Checks.due("full: set 3", Checks.linesOfSet(x, 3), "3 259 515 771 7 263 519 775");
        for (int tenant = 0; tenant < 4; tenant++) {
            Checks.due("full: lines(" + tenant + ", false)", x.lines(tenant, false), 8);
            Checks.due("full: count(" + tenant + ", 3)", x.count(tenant, EVICTED), 0);
            Checks.due("full: access(" + tenant + ", 255)", x.access(tenant, 255), MISS);
            Checks.due("full: count(" + tenant + ", 3) after a miss", x.count(tenant, EVICTED), 1);
            Checks.due("full: lines(" + tenant + ", false) after a miss", x.lines(tenant, false), 8);
        }
        Checks.due("full: set 3 after four misses", Checks.linesOfSet(x, 3), "255 511 767 1023 7 263 519 775");
    }

    /** "otherwise into the one that holds the line with the least stamp" */
    private static void evictsTheLeastStamp() {
        CountedCache x = new CountedCache();
        x.giveWay(1, 0);
        x.giveWay(2, 0);
        // the ways are 0, 1, 2 and 4
        x.stream(0, 0, 4, 4);
        x.access(0, 0);
        x.access(0, 8);
        x.access(0, 4);
        // the oldest is the line of 12 in way 4, then 0, 8, 4
        x.access(0, 16);
        Checks.due("least stamp: the last way first", Checks.linesOfSet(x, 0), "0 4 8 -1 16 -1 -1 -1");
        x.access(0, 20);
        x.access(0, 24);
        Checks.due("least stamp: then way 0, then way 2", Checks.linesOfSet(x, 0), "20 4 24 -1 16 -1 -1 -1");
    }

    /** "the stamp of the line becomes c" */
    private static void hitRenewsTheStamp() {
        CountedCache x = new CountedCache();
        x.access(0, 0);
        x.access(0, 4);
        Checks.due("hit: victim(0, 8) before", x.victim(0, 8), 0);
        x.access(0, 0);
        Checks.due("hit: victim(0, 8) after", x.victim(0, 8), 4);
        x.access(0, 0);
        x.access(0, 4);
        Checks.due("hit: victim(0, 8) after another hit", x.victim(0, 8), 0);
    }

    private static void hitOfAForeignLineRenewsTheStamp() {
        CountedCache x = new CountedCache();
        x.access(0, 0);
        x.giveWay(0, 1);
        x.access(1, 0);
        x.access(1, 4);
        Checks.due("foreign hit: victim(1, 8) before", x.victim(1, 8), 0);
        Checks.due("foreign hit: access(0, 0)", x.access(0, 0), HIT);
        Checks.due("foreign hit: victim(1, 8) after", x.victim(1, 8), 256);
    }

    /** "the number of its lines that were evicted" */
    private static void evictionCountsForTheLinesTenant() {
        CountedCache x = new CountedCache();
        x.access(2, 0);
        x.giveWay(2, 3);
        x.giveWay(3, 0);
        x.giveWay(7, 0);
        Checks.due("whose eviction: access(3, 0)", x.access(3, 0), MISS);
        Checks.due("whose eviction: count(2, 3)", x.count(2, EVICTED), 1);
        Checks.due("whose eviction: count(3, 3)", x.count(3, EVICTED), 0);
    }

    /** "this line is evicted": an empty place has none. */
    private static void missInAnEmptyPlaceEvictsNothing() {
        CountedCache x = new CountedCache();
        x.access(1, 0);
        x.access(1, 4);
        Checks.due("no eviction: count(1, 3)", x.count(1, EVICTED), 0);
        x.access(1, 8);
        Checks.due("no eviction: count(1, 3) after the third", x.count(1, EVICTED), 1);
    }

    private static void evictedLineIsGone() {
        CountedCache x = new CountedCache();
        x.stream(1, 0, 4, 3);
        Checks.due("gone: ifAccessed(1, 0)", x.ifAccessed(1, 0), MISS);
        Checks.due("gone: ifAccessed(1, 4)", x.ifAccessed(1, 4), HIT);
        Checks.due("gone: lines(1, false)", x.lines(1, false), 2);
    }

    // ---- stream: "each address is reduced to its remainder by 256"

    private static void streamEndsAtTheGreatestAddress() {
        CountedCache x = new CountedCache();
        Checks.due("stream to 255: stream(2, 253, 1, 3)", x.stream(2, 253, 1, 3), 0);
        Checks.due("stream to 255: line(3, 2)", x.line(3, 2), 767);
        Checks.due("stream to 255: ifAccessed(2, 0)", x.ifAccessed(2, 0), MISS);
    }

    private static void streamGoesPastTheGreatestAddress() {
        CountedCache x = new CountedCache();
        Checks.due("stream to 256: stream(2, 255, 1, 2)", x.stream(2, 255, 1, 2), 0);
        Checks.due("stream to 256: line(3, 2)", x.line(3, 2), 767);
        Checks.due("stream to 256: line(0, 2)", x.line(0, 2), 512);
        Checks.due("stream to 256: lines(3, false)", x.lines(3, false), 0);
        Checks.due("stream(2, 192, 64, 2)", x.stream(2, 192, 64, 2), 1);
        Checks.due("stream to 256: monitored(2, 0, 0)", x.monitored(2, 0, 0), 0);
    }

    /** The greatest of all sums is 255 + 39 * 64 = 2751, which is 191 by 256. */
    private static void streamGoesPastItTenTimes() {
        CountedCache x = new CountedCache();
        Checks.due("stream to 2751: stream(3, 255, 64, 40)", x.stream(3, 255, 64, 40), 0);
        // 255, 63, 127, 191 and again: the last two stay in the two ways
        Checks.due("stream to 2751: set 3", Checks.linesOfSet(x, 3), "-1 -1 -1 895 -1 -1 -1 959");
        Checks.due("stream to 2751: count(3, MISS)", x.count(3, MISS), 40);
        CountedCache y = new CountedCache();
        Checks.due("stream to 2749: stream(0, 253, 63, 40)", y.stream(0, 253, 63, 40), 0);
        // 253 + 39 * 63 = 2710, which is 150
        Checks.due("stream to 2710: monitored(0, 2, 0)", y.monitored(0, 2, 0), 150);
    }

    /** "count: the number of accesses, 1 to 40" */
    private static void streamOfOne() {
        CountedCache x = new CountedCache();
        Checks.due("stream(1, 4, 64, 1)", x.stream(1, 4, 64, 1), 0);
        Checks.due("stream of one: accesses()", x.accesses(), 1);
        Checks.due("stream of one: the step is not made", x.ifAccessed(1, 68), MISS);
        Checks.due("stream(1, 4, 64, 1) again", x.stream(1, 4, 64, 1), 1);
    }

    private static void streamOfForty() {
        CountedCache x = new CountedCache();
        Checks.due("stream(0, 0, 4, 40)", x.stream(0, 0, 4, 40), 0);
        Checks.due("stream of forty: accesses()", x.accesses(), 40);
        Checks.due("stream of forty: the last", x.ifAccessed(0, 156), HIT);
        Checks.due("stream of forty: none more", x.monitored(0, 0, 0), 156);
    }

    /** "Returns the number of accesses that are hits": none, some, all. */
    private static void streamOfFortyHits() {
        CountedCache x = new CountedCache();
        Checks.giveWays(x, "11111111");
        Checks.due("hits: stream(1, 0, 64, 40)", x.stream(1, 0, 64, 40), 36);
        Checks.due("hits: stream(1, 0, 64, 40) again", x.stream(1, 0, 64, 40), 40);
        Checks.due("hits: stream(1, 2, 64, 4)", x.stream(1, 2, 64, 4), 0);
    }

    private static void streamWithoutWays() {
        CountedCache x = new CountedCache();
        x.giveWay(0, 1);
        x.giveWay(4, 1);
        Checks.due("bypasses: stream(0, 0, 64, 40)", x.stream(0, 0, 64, 40), 0);
        Checks.due("bypasses: count(0, BYPASS)", x.count(0, BYPASS), 40);
    }

    // ---- flush: "Returns the number of lines that are removed."

    private static void flushOfNone() {
        CountedCache x = new CountedCache();
        x.stream(1, 0, 1, 8);
        Checks.due("flush of none: flush(0)", x.flush(0), 0);
        Checks.due("flush of none: lines(1, false)", x.lines(1, false), 8);
    }

    private static void flushOfAllPlaces() {
        CountedCache x = new CountedCache();
        Checks.giveWays(x, "33333333");
        x.stream(3, 0, 1, 32);
        Checks.due("flush of all: lines(3, false)", x.lines(3, false), 32);
        Checks.due("flush of all: flush(3)", x.flush(3), 32);
        for (int set = 0; set < 4; set++) {
            Checks.due("flush of all: set " + set, Checks.linesOfSet(x, set), "-1 -1 -1 -1 -1 -1 -1 -1");
        }
        Checks.due("flush of all: no eviction", x.count(3, EVICTED), 0);
        Checks.due("flush of all: flush(3) again", x.flush(3), 0);
    }

    private static void flushOfForeignLines() {
        CountedCache x = full();
        x.giveWay(4, 1);
        Checks.due("flush of foreign lines: flush(0)", x.flush(0), 8);
        Checks.due("flush of foreign lines: the set", Checks.linesOfSet(x, 2), "-1 258 514 770 -1 262 518 774");
    }

    private static void flushWithoutWays() {
        CountedCache x = full();
        x.giveWay(0, 1);
        x.giveWay(4, 1);
        Checks.due("flush without ways: flush(0)", x.flush(0), 8);
        Checks.due("flush without ways: flush(0) again", x.flush(0), 0);
    }

    /** "their places are empty then" */
    private static void flushedPlaceIsFilledAgain() {
        CountedCache x = new CountedCache();
        x.access(0, 0);
        x.access(0, 4);
        x.giveWay(4, 1);
        x.access(1, 0);
        x.access(1, 8);
        // way 1 holds 256, way 4 tenant 0's line of 4, way 5 holds 264
        x.flush(0);
        Checks.due("flushed: victim(1, 12)", x.victim(1, 12), -1);
        x.access(1, 12);
        Checks.due("flushed: the set", Checks.linesOfSet(x, 0), "-1 256 -1 -1 268 264 -1 -1");
    }

    // ---- queries

    /** "Returns the number of ways that a tenant owns." */
    private static void waysOfNoneAndAll() {
        CountedCache x = new CountedCache();
        Checks.giveWays(x, "11111111");
        Checks.due("waysOf(1) of all", x.waysOf(1), 8);
        Checks.due("waysOf(0) of none", x.waysOf(0), 0);
        Checks.due("waysOf(3) of none", x.waysOf(3), 0);
    }

    /** "true for its foreign lines only, false for all its lines" */
    private static void linesOfNoneAndAll() {
        CountedCache x = new CountedCache();
        Checks.due("lines(2, false) of none", x.lines(2, false), 0);
        Checks.due("lines(2, true) of none", x.lines(2, true), 0);
        Checks.giveWays(x, "22222222");
        x.stream(2, 0, 1, 32);
        Checks.due("lines(2, false) of all", x.lines(2, false), 32);
        Checks.due("lines(2, true) of none foreign", x.lines(2, true), 0);
        Checks.giveWays(x, "00000000");
        Checks.due("lines(2, true) of all", x.lines(2, true), 32);
        Checks.due("lines(2, false) of all foreign", x.lines(2, false), 32);
        Checks.due("lines(0, true)", x.lines(0, true), 0);
    }

    /** "Returns the number of lines in the cache" */
    private static void saveAndRestoreOfEmptyAndFull() {
        CountedCache x = full();
        Checks.due("save(0) of the full cache", x.save(0), 32);
        for (int tenant = 0; tenant < 4; tenant++) {
            x.flush(tenant);
        }
        Checks.due("save(1) of the empty cache", x.save(1), 0);
        Checks.due("restore(0) of the full cache", x.restore(0), 32);
        Checks.due("restore(1) of the empty cache", x.restore(1), 0);
    }

    /** "Tells what an access would be now." */
    private static void ifAccessedAtItsEdges() {
        CountedCache x = new CountedCache();
        x.access(0, 0);
        x.giveWay(0, 1);
        Checks.due("ifAccessed(0, 4) with one way", x.ifAccessed(0, 4), MISS);
        x.giveWay(4, 1);
        Checks.due("ifAccessed(0, 4) with no way", x.ifAccessed(0, 4), BYPASS);
        Checks.due("ifAccessed(0, 0) with no way but a line", x.ifAccessed(0, 0), HIT);
        Checks.due("ifAccessed: no access is made", x.accesses(), 1);
    }

    /** "NONE if the access would not be a miss" */
    private static void victimOfAHit() {
        CountedCache x = new CountedCache();
        x.access(0, 0);
        x.access(0, 4);
        Checks.due("victim(0, 8) of a miss", x.victim(0, 8), 0);
        Checks.due("victim(0, 4) of a hit", x.victim(0, 4), -1);
    }

    private static void victimOfABypass() {
        CountedCache x = new CountedCache();
        x.access(0, 0);
        x.access(0, 4);
        x.giveWay(0, 2);
        x.giveWay(4, 2);
        Checks.due("victim(0, 8) of a bypass", x.victim(0, 8), -1);
    }

    /** "or if it would evict no line" */
    private static void victimWithAnEmptyPlace() {
        CountedCache x = new CountedCache();
        Checks.due("victim(0, 8) with two empty places", x.victim(0, 8), -1);
        x.access(0, 0);
        Checks.due("victim(0, 8) with one empty place", x.victim(0, 8), -1);
        x.access(0, 4);
        Checks.due("victim(0, 8) with none", x.victim(0, 8), 0);
        x.giveWay(7, 0);
        Checks.due("victim(0, 8) with the way 7 empty", x.victim(0, 8), -1);
    }

    /** "Tells which line a miss would evict now" */
    private static void victimIsWhatTheMissEvicts() {
        CountedCache x = full();
        x.giveWay(3, 1);
        x.access(3, 2);
        // tenant 1 owns the ways 1, 3 and 5; in set 2 its own line of 2 is the oldest, then 6, then tenant 3's of 2
        Checks.due("victims: victim(1, 10)", x.victim(1, 10), 258);
        x.access(1, 10);
        Checks.due("victims: victim(1, 14)", x.victim(1, 14), 262);
        x.access(1, 14);
        Checks.due("victims: victim(1, 18), a foreign line", x.victim(1, 18), 770);
        x.access(1, 18);
        Checks.due("victims: the set", Checks.linesOfSet(x, 2), "2 266 514 274 6 270 518 774");
        Checks.due("victims: nothing but access evicts", x.count(1, EVICTED) + x.count(3, EVICTED), 3);
    }
}
