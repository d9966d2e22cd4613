/**
 * Step f of section 2, and promise 8, at their boundaries:
 * a sentence stands above the first test that holds to it.
 */
final class EpochBoundsTest {
    public static void main(String[] args) {
        firstLength();
        lengthOfZero();
        lengthOfOne();
        lengthOfTwoHundred();
        everyMultiple();
        multiplesOfTheCountNotOfTheCalls();
        setAtAMultiple();
        setBackToZero();
        endsAtAHit();
        endsAtAMiss();
        endsAtABypass();
        ofAllTenantsAccesses();
        movesBeforeItHalves();
        theLastAccessCounts();
        movesOneWay();
        halvesWithoutAMove();
        severalInOneStream();
        everyAccessOfAStream();
        inAText();
        queriesEndNone();
        ofTheCountThatIsRestored();
        Checks.end("EpochBoundsTest");
    }

    /** Tenant 0 has the gain 2 at position 0, by three accesses. */
    private static CountedCache gainOfTwo() {
        CountedCache x = new CountedCache();
        Checks.giveGain(x, 0, 0, 2);
        return x;
    }

    /** "the epoch length (0 at first)" */
    private static void firstLength() {
        CountedCache x = new CountedCache();
        Checks.due("first length", x.setEpoch(1), 0);
        CountedCache y = new CountedCache();
        y.giveWay(0, 1);
        for (int i = 0; i < 10; i++) {
            y.stream(3, 0, 64, 40);
        }
        Checks.due("first length: gain(3, 3)", y.gain(3, 3), 396);
        Checks.due("first length: owners", Checks.ownersOf(y), "11230123");
    }

    /** "0 means that there are no epochs" */
    private static void lengthOfZero() {
        CountedCache x = new CountedCache();
        x.setEpoch(0);
        x.giveWay(0, 1);
        for (int i = 0; i < 10; i++) {
            x.stream(3, 0, 64, 40);
        }
        Checks.due("length 0: gain(3, 3)", x.gain(3, 3), 396);
        Checks.due("length 0: owners", Checks.ownersOf(x), "11230123");
    }

    /** "If the epoch length is not 0 and c is a multiple of it": all are multiples of 1. */
    private static void lengthOfOne() {
        CountedCache x = gainOfTwo();
        x.setEpoch(1);
        x.access(3, 1);
        Checks.due("length 1: gain(0, 0) after one access", x.gain(0, 0), 1);
        x.access(3, 1);
        Checks.due("length 1: gain(0, 0) after two", x.gain(0, 0), 0);
        x.access(0, 0);
        Checks.due("length 1: a gain of 1 is halved at once", x.gain(0, 0), 0);
    }

    /** "c is a multiple of it": the access 199 ends none, 200 does, 201 does not, 400 does. */
    private static void lengthOfTwoHundred() {
        CountedCache x = new CountedCache();
        x.setEpoch(200);
        for (int i = 0; i < 4; i++) {
            x.stream(0, 0, 64, 40);
        }
        x.stream(0, 0, 64, 39);
        Checks.due("length 200: gain(0, 3) after 199", x.gain(0, 3), 195);
        x.access(0, 192);
        Checks.due("length 200: gain(0, 3) after 200", x.gain(0, 3), 98);
        x.access(0, 0);
        Checks.due("length 200: gain(0, 3) after 201", x.gain(0, 3), 99);
        for (int i = 0; i < 4; i++) {
            x.stream(3, 1, 4, 40);
        }
        x.stream(3, 1, 4, 38);
        Checks.due("length 200: accesses()", x.accesses(), 399);
        Checks.due("length 200: gain(0, 3) after 399", x.gain(0, 3), 99);
        x.access(3, 1);
        Checks.due("length 200: gain(0, 3) after 400", x.gain(0, 3), 49);
    }

    private static void everyMultiple() {
        CountedCache x = new CountedCache();
        Checks.giveGain(x, 0, 0, 63);
        x.setEpoch(3);
        // 64 accesses so far; 66, 69, 72, 75, 78 and 81 end epochs
        int[] gains = {63, 31, 31, 31, 15, 15, 15, 7, 7, 7, 3, 3, 3, 1, 1, 1, 0};
        for (int i = 0; i < gains.length; i++) {
            x.access(1, 1);
            Checks.due("length 3: gain(0, 0) after " + (65 + i), x.gain(0, 0), gains[i]);
        }
    }

    private static void multiplesOfTheCountNotOfTheCalls() {
        CountedCache x = gainOfTwo();
        // three accesses so far
        x.setEpoch(4);
        x.access(1, 1);
        Checks.due("of the count: gain(0, 0) after the fourth", x.gain(0, 0), 1);
    }

    /** It is an access that ends an epoch, not setEpoch. */
    private static void setAtAMultiple() {
        CountedCache x = gainOfTwo();
        x.giveWay(0, 1);
        x.setEpoch(3);
        Checks.due("set at a multiple: gain(0, 0)", x.gain(0, 0), 2);
        Checks.due("set at a multiple: owners", Checks.ownersOf(x), "11230123");
        CountedCache y = new CountedCache();
        y.giveWay(0, 1);
        y.setEpoch(1);
        Checks.due("set at the count 0: owners", Checks.ownersOf(y), "11230123");
    }

    private static void setBackToZero() {
        CountedCache x = gainOfTwo();
        x.setEpoch(1);
        x.setEpoch(0);
        x.access(1, 1);
        Checks.due("back to 0: gain(0, 0)", x.gain(0, 0), 2);
    }

    /** Step f is made behind each of the steps c, d and e. */
    private static void endsAtAHit() {
        CountedCache x = gainOfTwo();
        x.setEpoch(4);
        Checks.due("at a hit: access(0, 0)", x.access(0, 0), 1);
        Checks.due("at a hit: gain(0, 0)", x.gain(0, 0), 1);
    }

    private static void endsAtAMiss() {
        CountedCache x = gainOfTwo();
        x.setEpoch(4);
        Checks.due("at a miss: access(1, 1)", x.access(1, 1), 0);
        Checks.due("at a miss: gain(0, 0)", x.gain(0, 0), 1);
    }

    private static void endsAtABypass() {
        CountedCache x = gainOfTwo();
        x.setEpoch(4);
        x.giveWay(1, 2);
        x.giveWay(5, 2);
        Checks.due("at a bypass: access(1, 1)", x.access(1, 1), 2);
        Checks.due("at a bypass: gain(0, 0)", x.gain(0, 0), 1);
        Checks.due("at a bypass: owners", Checks.ownersOf(x), "01230223");
    }

    /** "Let c be the access count after that": one count for all tenants. */
    private static void ofAllTenantsAccesses() {
        CountedCache x = new CountedCache();
        x.setEpoch(4);
        x.giveWay(0, 1);
        for (int tenant = 0; tenant < 3; tenant++) {
            x.access(tenant, 1);
        }
        Checks.due("of all tenants: owners after three", Checks.ownersOf(x), "11230123");
        x.access(3, 1);
        Checks.due("of all tenants: owners after four", Checks.ownersOf(x), "10230123");
    }

    /** "one way is moved (section 5), and then all gains are halved": the gain 1 still counts for the move. */
    private static void movesBeforeItHalves() {
        CountedCache x = new CountedCache();
        Checks.giveGain(x, 0, 2, 1);
        x.setEpoch(5);
        Checks.due("move first: target(0)", x.target(0), 3);
        x.access(1, 1);
        Checks.due("move first: owners", Checks.ownersOf(x), "01200123");
        Checks.due("move first: gain(0, 2)", x.gain(0, 2), 0);
        Checks.due("move first: target(0) after it", x.target(0), 2);
    }

    /** The access that ends the epoch has updated the monitor, and has put its line, before the way is moved. */
    private static void theLastAccessCounts() {
        CountedCache x = new CountedCache();
        x.setEpoch(4);
        Checks.giveGain(x, 0, 2, 1);
        Checks.due("last access: owners", Checks.ownersOf(x), "01200123");
        CountedCache y = new CountedCache();
        y.setEpoch(1);
        y.giveWay(3, 0);
        y.access(0, 0);
        // way 0 holds the line that was just put, the ways 3 and 4 none
        Checks.due("last line: owners", Checks.ownersOf(y), "01230123");
        CountedCache z = new CountedCache();
        z.setEpoch(1);
        z.giveWay(7, 0);
        z.access(0, 0);
        Checks.due("last line: the lowest way without a line", Checks.ownersOf(z), "01233120");
    }

    /** "one way is moved" */
    private static void movesOneWay() {
        CountedCache x = new CountedCache();
        x.setEpoch(2);
        Checks.giveWays(x, "00000000");
        x.access(0, 1);
        Checks.due("one way: owners after one", Checks.ownersOf(x), "00000000");
        x.access(0, 1);
        Checks.due("one way: owners after two", Checks.ownersOf(x), "01000000");
    }

    /** "and then all gains are halved": also when no way is moved. */
    private static void halvesWithoutAMove() {
        CountedCache x = gainOfTwo();
        x.setEpoch(4);
        x.access(1, 1);
        Checks.due("without a move: owners", Checks.ownersOf(x), "01230123");
        Checks.due("without a move: gain(0, 0)", x.gain(0, 0), 1);
    }

    /** "Makes several accesses of a tenant, one after the other": each may end an epoch. */
    private static void severalInOneStream() {
        CountedCache x = new CountedCache();
        x.setEpoch(13);
        Checks.giveWays(x, "00000000");
        x.stream(1, 1, 4, 39);
        // ways go to the tenants 1, 2 and 3 at the accesses 13, 26 and 39
        Checks.due("three in a stream: owners", Checks.ownersOf(x), "12300000");
        Checks.due("three in a stream: count(1, BYPASS)", x.count(1, 2), 13);
        Checks.due("three in a stream: count(1, MISS)", x.count(1, 0), 26);
    }

    private static void everyAccessOfAStream() {
        CountedCache x = new CountedCache();
        x.setEpoch(1);
        Checks.giveWays(x, "33333333");
        x.stream(3, 0, 64, 40);
        Checks.due("forty in a stream: each gain of 1 is halved", x.utility(3, 8), 0);
        // the first four lines stand in the ways 0, 2, 4, 6, and the empty ways 1, 3, 5, 7 go to 0, 1, 2, 0;
        // then a gain of 1 at position 3 stands at each move, and the target of tenant 3 is 4
        Checks.due("forty in a stream: owners", Checks.ownersOf(x), "30313230");
        CountedCache y = new CountedCache();
        y.setEpoch(1);
        Checks.giveWays(y, "33333333");
        y.stream(3, 1, 64, 40);
        // the same, but without gains the ways 0 and 2 go too
        Checks.due("forty in another stream: owners", Checks.ownersOf(y), "10213230");
    }

    /** "Executes all commands of the text in their order, as access() ... do" */
    private static void inAText() {
        CountedCache x = gainOfTwo();
        x.giveWay(0, 1);
        x.setEpoch(5);
        Checks.setText(x, "1:1;m");
        x.runText();
        Checks.due("in a text, the fourth access: gain(0, 0)", x.gain(0, 0), 2);
        Checks.setText(x, "1:1");
        x.runText();
        Checks.due("in a text, the fifth access: gain(0, 0)", x.gain(0, 0), 1);
    }

    /** Only an access ends an epoch, also when the count stands at a multiple. */
    private static void queriesEndNone() {
        CountedCache x = new CountedCache();
        Checks.giveGain(x, 0, 0, 63);
        x.setEpoch(65);
        x.access(1, 1);
        Checks.due("at a multiple: gain(0, 0)", x.gain(0, 0), 31);
        x.flush(1);
        x.moveWay();
        x.setLeast(1, 1);
        x.save(0);
        x.restore(0);
        x.undo();
        Checks.setText(x, "m;f1");
        x.runText();
        x.ifAccessed(0, 0);
        Checks.due("at a multiple, without an access: gain(0, 0)", x.gain(0, 0), 31);
    }

    /** The access count and the epoch length are of the state that is restored. */
    private static void ofTheCountThatIsRestored() {
        CountedCache x = gainOfTwo();
        x.setEpoch(5);
        x.save(0);
        x.access(1, 1);
        x.undo();
        x.access(1, 1);
        Checks.due("undone: gain(0, 0) after the fourth", x.gain(0, 0), 2);
        x.access(1, 1);
        Checks.due("undone: gain(0, 0) after the fifth", x.gain(0, 0), 1);
        x.setEpoch(0);
        x.restore(0);
        x.access(1, 1);
        Checks.due("restored: gain(0, 0) after the fourth", x.gain(0, 0), 2);
        x.access(1, 1);
        Checks.due("restored: gain(0, 0) after the fifth", x.gain(0, 0), 1);
    }
}
