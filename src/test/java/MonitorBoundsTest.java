/**
 * Section 3, and promises 9 and 23 to 25, at their boundaries:
 * a sentence stands above the first test that holds to it.
 */
final class MonitorBoundsTest {
    private static final String EMPTY = "-1 -1 -1 -1 -1 -1 -1 -1";
    private static final String NO_GAIN = "0 0 0 0 0 0 0 0";

    public static void main(String[] args) {
        firstListsAndGains();
        sampledSets();
        setsThatAreNotSampled();
        leastAndGreatestSampledAddress();
        listOfOne();
        firstPositionAgain();
        secondPosition();
        listOfSevenAndEight();
        ninthAddress();
        lastPosition();
        addressThatWasRemoved();
        missInAFullListChangesNoGain();
        listsOfATenantAreApart();
        listsOfTenantsAreApart();
        listIsNotTheCache();
        gainsOfBothListsTogether();
        eachGainOfEachTenant();
        utilityOfNoWaysAndOfAll();
        halvesOfSmallGains();
        halvesEachGain();
        halvesNothing();
        halvesAHundredAndMore();
        Checks.end("MonitorBoundsTest");
    }

    /** "which is empty at first"; "all gains are 0 at first" */
    private static void firstListsAndGains() {
        CountedCache x = new CountedCache();
        for (int tenant = 0; tenant < 4; tenant++) {
            Checks.due("first list of " + tenant + ", set 0", Checks.listOf(x, tenant, 0), EMPTY);
            Checks.due("first list of " + tenant + ", set 2", Checks.listOf(x, tenant, 2), EMPTY);
            Checks.due("first gains of " + tenant, Checks.gainsOf(x, tenant), NO_GAIN);
        }
    }

    /** "The sets 0 and 2 are sampled." */
    private static void sampledSets() {
        CountedCache x = new CountedCache();
        x.stream(1, 0, 1, 8);
        Checks.due("sampled: set 0", Checks.listOf(x, 1, 0), "4 0 -1 -1 -1 -1 -1 -1");
        Checks.due("sampled: set 2", Checks.listOf(x, 1, 2), "6 2 -1 -1 -1 -1 -1 -1");
    }

    private static void setsThatAreNotSampled() {
        for (int address : new int[] {1, 3, 253, 255}) {
            CountedCache x = new CountedCache();
            x.access(1, address);
            x.access(1, address);
            Checks.due("not sampled, " + address + ": set 0", Checks.listOf(x, 1, 0), EMPTY);
            Checks.due("not sampled, " + address + ": set 2", Checks.listOf(x, 1, 2), EMPTY);
            Checks.due("not sampled, " + address + ": gains", Checks.gainsOf(x, 1), NO_GAIN);
        }
    }

    private static void leastAndGreatestSampledAddress() {
        CountedCache x = new CountedCache();
        x.access(0, 0);
        x.access(0, 252);
        x.access(3, 2);
        x.access(3, 254);
        Checks.due("0 and 252: set 0", Checks.listOf(x, 0, 0), "252 0 -1 -1 -1 -1 -1 -1");
        Checks.due("2 and 254: set 2", Checks.listOf(x, 3, 2), "254 2 -1 -1 -1 -1 -1 -1");
        x.access(0, 0);
        x.access(3, 254);
        Checks.due("0 at position 1", Checks.gainsOf(x, 0), "0 1 0 0 0 0 0 0");
        Checks.due("254 at position 0", Checks.gainsOf(x, 3), "1 0 0 0 0 0 0 0");
    }

    /** "NONE if the list is not so long": the first address of the empty list brings no gain. */
    private static void listOfOne() {
        CountedCache x = new CountedCache();
        x.access(2, 8);
        Checks.due("one: the list", Checks.listOf(x, 2, 0), "8 -1 -1 -1 -1 -1 -1 -1");
        Checks.due("one: gains", Checks.gainsOf(x, 2), NO_GAIN);
    }

    /** "at the position p (0 for the first one)" */
    private static void firstPositionAgain() {
        CountedCache x = new CountedCache();
        x.stream(2, 0, 4, 3);
        x.access(2, 8);
        Checks.due("first position: the list stays", Checks.listOf(x, 2, 0), "8 4 0 -1 -1 -1 -1 -1");
        Checks.due("first position: gains", Checks.gainsOf(x, 2), "1 0 0 0 0 0 0 0");
    }

    /** "the address is moved to the first position": those behind it stay. */
    private static void secondPosition() {
        CountedCache x = new CountedCache();
        x.stream(2, 0, 4, 3);
        x.access(2, 4);
        Checks.due("second position: the list", Checks.listOf(x, 2, 0), "4 8 0 -1 -1 -1 -1 -1");
        Checks.due("second position: gains", Checks.gainsOf(x, 2), "0 1 0 0 0 0 0 0");
        x.access(2, 0);
        Checks.due("third and last position: the list", Checks.listOf(x, 2, 0), "0 4 8 -1 -1 -1 -1 -1");
        Checks.due("third and last position: gains", Checks.gainsOf(x, 2), "0 1 1 0 0 0 0 0");
    }

    /** "a list of at most eight addresses" */
    private static void listOfSevenAndEight() {
        CountedCache x = new CountedCache();
        x.stream(0, 2, 4, 7);
        Checks.due("seven: the list", Checks.listOf(x, 0, 2), "26 22 18 14 10 6 2 -1");
        x.access(0, 30);
        Checks.due("eight: the list", Checks.listOf(x, 0, 2), "30 26 22 18 14 10 6 2");
        Checks.due("eight: gains", Checks.gainsOf(x, 0), NO_GAIN);
    }

    /** "if the list has nine addresses then, the last one is removed" */
    private static void ninthAddress() {
        CountedCache x = new CountedCache();
        x.stream(0, 2, 4, 9);
        Checks.due("nine: the list", Checks.listOf(x, 0, 2), "34 30 26 22 18 14 10 6");
        x.access(0, 38);
        Checks.due("ten: the list", Checks.listOf(x, 0, 2), "38 34 30 26 22 18 14 10");
    }

    /** The address at position 7 of a full list is in the list: it is moved, and nothing is removed. */
    private static void lastPosition() {
        CountedCache x = new CountedCache();
        x.stream(0, 2, 4, 8);
        x.access(0, 2);
        Checks.due("last position: the list", Checks.listOf(x, 0, 2), "2 30 26 22 18 14 10 6");
        Checks.due("last position: gains", Checks.gainsOf(x, 0), "0 0 0 0 0 0 0 1");
    }

    /** "Otherwise the address is put at the first position": one that was removed is not in the list. */
    private static void addressThatWasRemoved() {
        CountedCache x = new CountedCache();
        x.stream(0, 2, 4, 9);
        x.access(0, 2);
        Checks.due("removed: the list", Checks.listOf(x, 0, 2), "2 34 30 26 22 18 14 10");
        Checks.due("removed: gains", Checks.gainsOf(x, 0), NO_GAIN);
    }

    private static void missInAFullListChangesNoGain() {
        CountedCache x = new CountedCache();
        x.stream(3, 0, 4, 40);
        Checks.due("forty different: gains", Checks.gainsOf(x, 3), NO_GAIN);
        Checks.due("forty different: the list", Checks.listOf(x, 3, 0), "156 152 148 144 140 136 132 128");
    }

    /** "For each tenant and each sampled set there is a list" */
    private static void listsOfATenantAreApart() {
        CountedCache x = new CountedCache();
        x.stream(1, 0, 4, 8);
        x.stream(1, 2, 4, 9);
        Checks.due("apart: set 0", Checks.listOf(x, 1, 0), "28 24 20 16 12 8 4 0");
        Checks.due("apart: set 2", Checks.listOf(x, 1, 2), "34 30 26 22 18 14 10 6");
    }

    private static void listsOfTenantsAreApart() {
        CountedCache x = new CountedCache();
        for (int tenant = 0; tenant < 4; tenant++) {
            x.stream(tenant, 8 * tenant, 4, 1);
            x.stream(tenant, 8 * tenant + 2, 4, 2);
        }
        for (int tenant = 0; tenant < 4; tenant++) {
            int first = 8 * tenant;
            Checks.due("tenant " + tenant + ": set 0", Checks.listOf(x, tenant, 0), first + " -1 -1 -1 -1 -1 -1 -1");
            Checks.due("tenant " + tenant + ": set 2", Checks.listOf(x, tenant, 2),
                    first + 6 + " " + (first + 2) + " -1 -1 -1 -1 -1 -1");
        }
    }

    /** Lists hold addresses that the cache has evicted, flushed or never taken in. */
    private static void listIsNotTheCache() {
        CountedCache x = new CountedCache();
        x.stream(0, 0, 4, 4);
        x.flush(0);
        Checks.due("flushed: the list", Checks.listOf(x, 0, 0), "12 8 4 0 -1 -1 -1 -1");
        x.giveWay(0, 1);
        x.giveWay(4, 1);
        Checks.due("flushed, and no way: access(0, 0)", x.access(0, 0), 2);
        Checks.due("flushed, and no way: gains", Checks.gainsOf(x, 0), "0 0 0 1 0 0 0 0");
    }

    /** "A tenant has a gain for each position from 0 to 7, both lists together" */
    private static void gainsOfBothListsTogether() {
        CountedCache x = new CountedCache();
        x.stream(1, 0, 2, 16);
        x.access(1, 0);
        x.access(1, 2);
        x.access(1, 2);
        Checks.due("both lists: gains", Checks.gainsOf(x, 1), "1 0 0 0 0 0 0 2");
    }

    private static void eachGainOfEachTenant() {
        for (int tenant = 0; tenant < 4; tenant++) {
            for (int position = 0; position < 8; position++) {
                CountedCache x = new CountedCache();
                Checks.giveGain(x, tenant, position, 3);
                for (int other = 0; other < 4; other++) {
                    String due = other == tenant
                            ? "0 ".repeat(position) + "3" + " 0".repeat(7 - position) : NO_GAIN;
                    Checks.due("gain of " + tenant + " at " + position + ": gains of " + other,
                            Checks.gainsOf(x, other), due);
                }
            }
        }
    }

    /** "for w from 0 to 8, is the sum of its gains at the positions less than w" */
    private static void utilityOfNoWaysAndOfAll() {
        CountedCache x = new CountedCache();
        int sum = 0;
        for (int position = 0; position < 8; position++) {
            Checks.giveGain(x, 3, position, position + 1);
        }
        for (int ways = 0; ways <= 8; ways++) {
            sum += ways;
            Checks.due("utility(3, " + ways + ")", x.utility(3, ways), sum);
            Checks.due("utility(2, " + ways + ")", x.utility(2, ways), 0);
        }
    }

    /** "each gain of each tenant is divided by 2, rounded down": 0, 1, 2, 3, 4 */
    private static void halvesOfSmallGains() {
        CountedCache x = new CountedCache();
        for (int position = 1; position < 5; position++) {
            Checks.giveGain(x, 0, position, position);
        }
        Checks.due("halves: gains before", Checks.gainsOf(x, 0), "0 1 2 3 4 0 0 0");
        Checks.due("halves: halveGains()", x.halveGains(), 4);
        Checks.due("halves: gains after", Checks.gainsOf(x, 0), "0 0 1 1 2 0 0 0");
        Checks.due("halves: halveGains() again", x.halveGains(), 1);
        Checks.due("halves: halveGains() a third time", x.halveGains(), 0);
    }

    private static void halvesEachGain() {
        for (int position = 0; position < 8; position++) {
            CountedCache x = new CountedCache();
            for (int tenant = 0; tenant < 4; tenant++) {
                Checks.giveGain(x, tenant, position, 2 * tenant + 3);
            }
            Checks.due("halves at " + position + ": halveGains()", x.halveGains(), 1 + 2 + 3 + 4);
            for (int tenant = 0; tenant < 4; tenant++) {
                Checks.due("halves at " + position + ": gain of " + tenant, x.gain(tenant, position), tenant + 1);
            }
        }
    }

    private static void halvesNothing() {
        CountedCache x = new CountedCache();
        Checks.due("halveGains() without gains", x.halveGains(), 0);
        Checks.due("halveGains() without gains: accesses()", x.accesses(), 0);
    }

    /** A gain that a byte would not hold. */
    private static void halvesAHundredAndMore() {
        CountedCache x = new CountedCache();
        for (int i = 0; i < 9; i++) {
            x.stream(2, 0, 64, 40);
        }
        Checks.due("many: gain(2, 3)", x.gain(2, 3), 356);
        Checks.due("many: utility(2, 4)", x.utility(2, 4), 356);
        Checks.due("many: halveGains()", x.halveGains(), 178);
    }
}
