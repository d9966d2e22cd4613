/**
 * Sections 4 and 5, and promises 5 to 7 and 26 to 28, at their boundaries:
 * a sentence stands above the first test that holds to it.
 */
final class TargetBoundsTest {
    public static void main(String[] args) {
        firstTargets();
        restOfNone();
        restOfAll();
        leastNumbersAreHeldTo();
        greatestK();
        greatestKIsTheRest();
        gainBelowTheTargetIsNoRate();
        gainAtTheTargetIsARate();
        smallestRate();
        noRate();
        noRateOfSeveralEqualTargets();
        noRateAndTheLowestTarget();
        rateIsAFraction();
        rateIsNotRounded();
        rateOfGreatGains();
        rateOfSeveralGains();
        equalRatesOfTwoTenants();
        equalFractions();
        equalRatesOfOneTenant();
        targetsDoNotFollowTheWays();
        targetOfOtherSets();

        noDeficit();
        deficitOfOne();
        receiverWithTheGreatestDeficit();
        donorWithTheLeastDeficit();
        equalReceivers();
        equalDonors();
        donorOfItsLastWay();
        receiverWithoutWays();
        allWaysMove();
        emptyWays();
        fewestLines();
        equallyFewLines();
        fullWays();
        linesOfOthersInTheDonorsWays();
        linesStay();

        movesLeftOfNoneAndAll();
        movesLeftOfSeveralDeficits();
        totalUtilityOfNoneAndAll();
        giveWayToItsOwner();
        giveTheLastWay();
        setLeastMovesNoWay();
        Checks.end("TargetBoundsTest");
    }

    private static CountedCache withLeasts(String leasts) {
        CountedCache x = new CountedCache();
        Checks.setLeasts(x, leasts);
        return x;
    }

    private static void targets(String of, CountedCache x, String due) {
        Checks.due(of + ": targets", Checks.targetsOf(x), due);
    }

    // ---- section 4

    /** "a least number of ways, from 0 to 2, which is 1 at first" */
    private static void firstTargets() {
        CountedCache x = new CountedCache();
        targets("first", x, "2222");
        for (int tenant = 0; tenant < 4; tenant++) {
            Checks.due("first least number of " + tenant, x.setLeast(tenant, 1), 1);
        }
    }

    /** "As long as the rest is not 0" */
    private static void restOfNone() {
        CountedCache x = withLeasts("2222");
        targets("rest 0, no gain", x, "2222");
        Checks.giveGain(x, 0, 2, 9);
        targets("rest 0, a gain", x, "2222");
        x.setLeast(3, 1);
        targets("rest 1, a gain", x, "3221");
    }

    /** "the rest is 8 minus the sum of these" */
    private static void restOfAll() {
        CountedCache x = withLeasts("0000");
        targets("rest 8, no gain", x, "2222");
        Checks.giveGain(x, 1, 7, 1);
        targets("rest 8, a gain at the last position", x, "0800");
        x.setLeast(1, 2);
        targets("rest 6, the same gain", x, "0800");
        x.setLeast(0, 1);
        targets("rest 5, the same gain", x, "2222");
    }

    /** "at first the target of each tenant is its least number" */
    private static void leastNumbersAreHeldTo() {
        CountedCache x = withLeasts("0120");
        Checks.giveGain(x, 0, 4, 50);
        targets("rest 5 for one", x, "5120");
        CountedCache y = withLeasts("2100");
        Checks.giveGain(y, 3, 4, 50);
        targets("rest 5 for another", y, "2105");
    }

    /** "each k from 1 to the rest": the rest reaches just the gain, or falls one short of it. */
    private static void greatestK() {
        CountedCache x = new CountedCache();
        Checks.giveGain(x, 1, 4, 1);
        targets("k 4 of a rest of 4", x, "1511");
        CountedCache y = new CountedCache();
        Checks.giveGain(y, 1, 5, 9);
        targets("k 5 of a rest of 4", y, "2222");
    }

    private static void greatestKIsTheRest() {
        CountedCache x = withLeasts("2221");
        Checks.giveGain(x, 2, 2, 1);
        targets("k 1 of a rest of 1", x, "2231");
        CountedCache y = withLeasts("2221");
        Checks.giveGain(y, 2, 3, 9);
        targets("k 2 of a rest of 1", y, "2222");
    }

    /** "the utility of w + k ways minus the utility of w ways" */
    private static void gainBelowTheTargetIsNoRate() {
        CountedCache x = withLeasts("2122");
        Checks.giveGain(x, 0, 0, 9);
        Checks.giveGain(x, 0, 1, 9);
        targets("gains at positions 0 and 1, least 2", x, "2222");
    }

    private static void gainAtTheTargetIsARate() {
        CountedCache x = withLeasts("2122");
        Checks.giveGain(x, 0, 2, 1);
        targets("gain at position 2, least 2", x, "3122");
        CountedCache y = withLeasts("0222");
        Checks.giveGain(y, 0, 0, 1);
        Checks.giveGain(y, 1, 2, 2);
        targets("gain at position 0, least 0", y, "1322");
    }

    /** "If the greatest rate is greater than 0": one eighth is. */
    private static void smallestRate() {
        CountedCache x = withLeasts("0000");
        Checks.giveGain(x, 3, 7, 1);
        targets("1 / 8", x, "0008");
        x.halveGains();
        targets("0 / 8", x, "2222");
    }

    /** "If no rate is greater than 0 ... increases by 1, and the rest decreases by 1." */
    private static void noRate() {
        for (String leasts : new String[] {"0000", "1111", "2222", "2000", "0002", "0121", "1222", "2220"}) {
            targets("leasts " + leasts + ", no gain", withLeasts(leasts), "2222");
        }
    }

    /** "(of several the one with the lowest number)" */
    private static void noRateOfSeveralEqualTargets() {
        CountedCache x = new CountedCache();
        Checks.giveGain(x, 0, 2, 1);
        targets("rest 2 for three", x, "3221");
        CountedCache y = new CountedCache();
        Checks.giveGain(y, 3, 3, 1);
        targets("rest 1 for three", y, "2114");
        CountedCache z = new CountedCache();
        Checks.giveGain(z, 1, 1, 1);
        Checks.giveGain(z, 1, 2, 1);
        targets("rest 2 for the others of 1", z, "2321");
    }

    /** "the tenant with the lowest target so far" */
    private static void noRateAndTheLowestTarget() {
        CountedCache x = withLeasts("2110");
        Checks.giveGain(x, 1, 2, 1);
        targets("rest 2 for 0 and 1", x, "2321");
        CountedCache y = withLeasts("1120");
        Checks.giveGain(y, 2, 4, 1);
        targets("rest 1 for 0", y, "1151");
    }

    /** "divided by k (as an exact fraction)": below 1 it is not 0. */
    private static void rateIsAFraction() {
        CountedCache x = new CountedCache();
        Checks.giveGain(x, 1, 2, 1);
        Checks.giveGain(x, 2, 3, 2);
        targets("1 / 2 and 2 / 3", x, "2141");
        CountedCache y = new CountedCache();
        Checks.giveGain(y, 1, 2, 1);
        Checks.giveGain(y, 2, 3, 1);
        targets("1 / 2 and 1 / 3", y, "2321");
    }

    private static void rateIsNotRounded() {
        CountedCache x = new CountedCache();
        Checks.giveGain(x, 1, 2, 3);
        Checks.giveGain(x, 2, 3, 5);
        targets("3 / 2 and 5 / 3", x, "2141");
        CountedCache y = new CountedCache();
        Checks.giveGain(y, 1, 3, 7);
        Checks.giveGain(y, 2, 2, 5);
        targets("7 / 3 and 5 / 2", y, "2231");
        CountedCache z = new CountedCache();
        Checks.giveGain(z, 1, 4, 11);
        Checks.giveGain(z, 2, 3, 8);
        targets("11 / 4 and 8 / 3", z, "1511");
    }

    private static void rateOfGreatGains() {
        CountedCache x = new CountedCache();
        Checks.giveGain(x, 1, 3, 100);
        Checks.giveGain(x, 2, 2, 67);
        targets("100 / 3 and 67 / 2", x, "2231");
        CountedCache y = new CountedCache();
        Checks.giveGain(y, 1, 2, 67);
        Checks.giveGain(y, 2, 3, 101);
        targets("67 / 2 and 101 / 3", y, "2141");
    }

    /** The utility is a sum: (3 + 3) / 3 is more than 5 / 3, though 3 / 2 and 3 / 3 are less. */
    private static void rateOfSeveralGains() {
        CountedCache x = new CountedCache();
        Checks.giveGain(x, 1, 2, 3);
        Checks.giveGain(x, 1, 3, 3);
        Checks.giveGain(x, 2, 3, 5);
        targets("6 / 3 and 5 / 3", x, "2411");
        CountedCache y = new CountedCache();
        Checks.giveGain(y, 1, 2, 1);
        Checks.giveGain(y, 1, 3, 3);
        Checks.giveGain(y, 2, 3, 5);
        targets("4 / 3 and 5 / 3", y, "2141");
    }

    /** "of several the tenant with the lowest number is taken" */
    private static void equalRatesOfTwoTenants() {
        CountedCache x = withLeasts("2122");
        Checks.giveGain(x, 2, 2, 3);
        Checks.giveGain(x, 3, 2, 3);
        targets("3 / 1 twice", x, "2132");
        CountedCache y = withLeasts("2122");
        Checks.giveGain(y, 2, 2, 3);
        Checks.giveGain(y, 3, 2, 4);
        targets("3 / 1 and 4 / 1", y, "2123");
    }

    private static void equalFractions() {
        CountedCache x = new CountedCache();
        Checks.giveGain(x, 1, 4, 2);
        Checks.giveGain(x, 2, 2, 1);
        targets("2 / 4 and 1 / 2", x, "1511");
        CountedCache y = new CountedCache();
        Checks.giveGain(y, 1, 2, 1);
        Checks.giveGain(y, 2, 4, 2);
        targets("1 / 2 and 2 / 4", y, "2321");
    }

    /** "and of several k for this tenant the least": the greater k comes in its turn. */
    private static void equalRatesOfOneTenant() {
        CountedCache x = new CountedCache();
        Checks.giveGain(x, 2, 1, 2);
        Checks.giveGain(x, 2, 3, 4);
        targets("2 / 1 and 6 / 3", x, "2141");
        x.setLeast(1, 2);
        x.setLeast(0, 2);
        // the rest is 2, so that 6 / 3 is out of reach
        targets("2 / 1 alone", x, "2222");
    }

    /** Who owns a way plays no part in section 4. */
    private static void targetsDoNotFollowTheWays() {
        CountedCache x = new CountedCache();
        Checks.giveGain(x, 0, 3, 6);
        targets("first ways", x, "4211");
        Checks.giveWays(x, "33333333");
        targets("all ways given to one", x, "4211");
    }

    /** Gains come from the sets 0 and 2 alone, so what is in the others moves no target. */
    private static void targetOfOtherSets() {
        CountedCache x = new CountedCache();
        for (int i = 0; i < 9; i++) {
            x.stream(3, 1, 4, 3);
            x.stream(3, 3, 4, 3);
        }
        targets("gains of sets 1 and 3", x, "2222");
    }

    // ---- section 5

    private static void moves(String of, CountedCache x, int way, String owners) {
        Checks.due(of + ": moveWay()", x.moveWay(), way);
        Checks.due(of + ": owners", Checks.ownersOf(x), owners);
    }

    /** "If the greatest deficit is 0, no way is moved." */
    private static void noDeficit() {
        CountedCache x = new CountedCache();
        moves("no deficit", x, -1, "01230123");
        CountedCache y = new CountedCache();
        Checks.giveGain(y, 0, 3, 6);
        Checks.giveWays(y, "00001123");
        moves("no deficit of other targets", y, -1, "00001123");
    }

    /** "Otherwise the receiver ...": a deficit of 1 is enough. */
    private static void deficitOfOne() {
        CountedCache x = new CountedCache();
        x.giveWay(7, 0);
        moves("one", x, 0, "31230120");
        moves("one, and then none", x, -1, "31230120");
    }

    /** "the receiver is the tenant with the greatest deficit" */
    private static void receiverWithTheGreatestDeficit() {
        CountedCache x = new CountedCache();
        Checks.giveWays(x, "01111122");
        // deficits 1, -3, 0, 2
        moves("receiver", x, 1, "03111122");
        // deficits 1, -2, 0, 1
        moves("receiver, then the lowest", x, 2, "03011122");
    }

    /** "and the donor is the tenant with the least deficit" */
    private static void donorWithTheLeastDeficit() {
        CountedCache x = new CountedCache();
        Checks.giveWays(x, "00033331");
        // deficits -1, 1, 2, -2
        moves("donor", x, 3, "00023331");
        moves("donor, then the lowest", x, 0, "10023331");
    }

    /** "of several tenants it is the one with the lowest number" */
    private static void equalReceivers() {
        CountedCache x = new CountedCache();
        Checks.giveWays(x, "00000000");
        moves("equal receivers, first", x, 0, "10000000");
        moves("equal receivers, second", x, 1, "12000000");
        moves("equal receivers, third", x, 2, "12300000");
        moves("equal receivers, fourth", x, 3, "12310000");
    }

    private static void equalDonors() {
        CountedCache x = new CountedCache();
        Checks.giveWays(x, "33321211");
        // deficits 2, -1, 0, -1
        moves("equal donors, first", x, 4, "33320211");
        moves("equal donors, second", x, 0, "03320211");
    }

    /** A donor may give its last way: its target is 0 then. */
    private static void donorOfItsLastWay() {
        CountedCache x = withLeasts("1110");
        Checks.giveGain(x, 0, 5, 6);
        targets("last way", x, "6110");
        Checks.giveWays(x, "31200000");
        x.access(3, 3);
        moves("last way", x, 0, "01200000");
        Checks.due("last way: waysOf(3)", x.waysOf(3), 0);
        Checks.due("last way: lines(3, true)", x.lines(3, true), 1);
    }

    private static void receiverWithoutWays() {
        CountedCache x = new CountedCache();
        Checks.giveWays(x, "01220122");
        // deficits 0, 0, -2, 2
        moves("without ways", x, 2, "01320122");
        moves("without ways, once more", x, 3, "01330122");
        moves("without ways, and then none", x, -1, "01330122");
    }

    private static void allWaysMove() {
        CountedCache x = withLeasts("0000");
        Checks.giveGain(x, 3, 7, 1);
        Checks.giveWays(x, "00000000");
        // tenant 0 has no lines, so the lowest of its ways goes each time
        for (int way = 0; way < 8; way++) {
            Checks.due("all: moveWay()", x.moveWay(), way);
            Checks.due("all: movesLeft()", x.movesLeft(), 7 - way);
        }
        moves("all, and then none", x, -1, "33333333");
    }

    /** "in which the fewest lines of the donor are (in all four sets together)": none is fewer than one. */
    private static void emptyWays() {
        CountedCache x = new CountedCache();
        x.giveWay(2, 1);
        x.giveWay(6, 1);
        x.access(1, 3);
        moves("empty ways", x, 2, "01230113");
        CountedCache y = new CountedCache();
        y.giveWay(2, 1);
        y.stream(1, 0, 4, 2);
        // the ways of tenant 1 are 1, 2 and 5, and only 5 is empty
        moves("the last way is empty", y, 5, "01130223");
    }

    private static void fewestLines() {
        CountedCache x = new CountedCache();
        x.giveWay(7, 0);
        x.stream(0, 0, 4, 3);
        x.stream(0, 1, 4, 2);
        x.access(0, 2);
        // the ways 0, 4 and 7 hold three lines, two, one
        moves("fewest in the last", x, 7, "01230123");
        CountedCache y = new CountedCache();
        y.giveWay(7, 0);
        y.giveWay(4, 1);
        y.stream(0, 0, 4, 2);
        y.stream(0, 1, 4, 2);
        y.access(0, 2);
        y.giveWay(4, 0);
        y.access(0, 8);
        // the ways 0, 4 and 7 hold three lines, one, two
        moves("fewest in the middle", y, 4, "01233120");
    }

    /** "of several ways it is the one with the lowest number" */
    private static void equallyFewLines() {
        CountedCache x = new CountedCache();
        x.giveWay(3, 2);
        // the ways of tenant 2 are 2, 3 and 6: two lines, one, one
        x.stream(2, 0, 4, 3);
        x.access(2, 1);
        moves("equally few", x, 3, "01230123");
    }

    /** A way that is full, with four lines of the donor, is found too. */
    private static void fullWays() {
        CountedCache x = new CountedCache();
        Checks.giveWays(x, "33333333");
        x.stream(3, 0, 1, 32);
        moves("full ways", x, 0, "03333333");
        moves("full ways again", x, 1, "01333333");
        CountedCache y = new CountedCache();
        y.giveWay(5, 3);
        y.stream(3, 0, 1, 11);
        // way 3 and way 5 are full, way 7 has three lines
        moves("full ways and one of three lines", y, 7, "01230321");
    }

    /** "lines of the donor": lines of others in the way do not count, nor do its lines in the ways of others. */
    private static void linesOfOthersInTheDonorsWays() {
        CountedCache x = new CountedCache();
        x.stream(1, 0, 1, 4);
        x.giveWay(1, 0);
        x.access(0, 0);
        x.access(0, 4);
        Checks.due("others' lines: set 0", Checks.linesOfSet(x, 0), "0 256 -1 -1 4 -1 -1 -1");
        // tenant 0 has a line in way 0 and one in way 4, and none in way 1, which holds four of tenant 1
        moves("others' lines", x, 1, "01230123");
    }

    /** "All lines stay." */
    private static void linesStay() {
        CountedCache x = new CountedCache();
        x.giveWay(3, 0);
        x.stream(0, 0, 1, 12);
        String before = Checks.linesOfSet(x, 0) + Checks.linesOfSet(x, 1) + Checks.linesOfSet(x, 2);
        moves("lines stay", x, 0, "31200123");
        Checks.due("lines stay: the sets", Checks.linesOfSet(x, 0) + Checks.linesOfSet(x, 1)
                + Checks.linesOfSet(x, 2), before);
        Checks.due("lines stay: lines(0, true)", x.lines(0, true), 4);
        Checks.due("lines stay: access(0, 0)", x.access(0, 0), 1);
    }

    // ---- promises 6, 7, 27 and 28

    /** "the sum of all deficits that are greater than 0" */
    private static void movesLeftOfNoneAndAll() {
        CountedCache x = new CountedCache();
        Checks.due("movesLeft() of none", x.movesLeft(), 0);
        Checks.setLeasts(x, "0000");
        Checks.giveGain(x, 3, 7, 1);
        Checks.due("movesLeft() of 6", x.movesLeft(), 6);
        Checks.giveWays(x, "01201201");
        Checks.due("movesLeft() of all", x.movesLeft(), 8);
        Checks.due("movesLeft() moves nothing", Checks.ownersOf(x), "01201201");
    }

    private static void movesLeftOfSeveralDeficits() {
        CountedCache x = new CountedCache();
        Checks.giveWays(x, "01111122");
        Checks.due("movesLeft() of deficits 1, -3, 0, 2", x.movesLeft(), 3);
        Checks.giveWays(x, "00033331");
        Checks.due("movesLeft() of deficits -1, 1, 2, -2", x.movesLeft(), 3);
    }

    /** "the sum, over all tenants, of the utility of the ways that the tenant owns" */
    private static void totalUtilityOfNoneAndAll() {
        CountedCache x = new CountedCache();
        Checks.due("totalUtility() without gains", x.totalUtility(), 0);
        for (int position = 0; position < 8; position++) {
            Checks.giveGain(x, 2, position, position + 1);
        }
        Checks.giveWays(x, "00000000");
        Checks.due("totalUtility() of no way", x.totalUtility(), 0);
        x.giveWay(6, 2);
        Checks.due("totalUtility() of one way", x.totalUtility(), 1);
        Checks.giveWays(x, "22222222");
        Checks.due("totalUtility() of all ways", x.totalUtility(), 36);
        Checks.giveGain(x, 0, 0, 5);
        Checks.due("totalUtility(): another tenant without ways", x.totalUtility(), 36);
        x.giveWay(0, 0);
        Checks.due("totalUtility(): another tenant with one", x.totalUtility(), 28 + 5);
    }

    /** "Gives a way to a tenant, whatever the targets are; all lines stay." */
    private static void giveWayToItsOwner() {
        CountedCache x = new CountedCache();
        x.access(3, 3);
        Checks.due("giveWay(3, 3) to its owner", x.giveWay(3, 3), 3);
        Checks.due("giveWay to its owner: owners", Checks.ownersOf(x), "01230123");
        Checks.due("giveWay to its owner: the line", x.line(3, 3), 771);
    }

    private static void giveTheLastWay() {
        CountedCache x = withLeasts("2222");
        x.access(0, 0);
        x.giveWay(4, 1);
        Checks.due("giveWay(0, 1) of the last way", x.giveWay(0, 1), 0);
        Checks.due("last way given: waysOf(0)", x.waysOf(0), 0);
        Checks.due("last way given: the line", x.line(0, 0), 0);
        Checks.due("last way given: lines(0, true)", x.lines(0, true), 1);
    }

    /** "Ways are not moved by this." */
    private static void setLeastMovesNoWay() {
        CountedCache x = new CountedCache();
        Checks.giveWays(x, "00000000");
        x.setLeast(1, 2);
        x.setLeast(0, 0);
        Checks.due("setLeast: owners", Checks.ownersOf(x), "00000000");
    }
}
