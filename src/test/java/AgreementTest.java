/**
 * Sentences that bind the answer of one call to what other calls answer, on objects of many kinds:
 * a sentence stands above the first test that holds to it.
 */
final class AgreementTest {
    private static final int NONE = -1, MISS = 0, HIT = 1, BYPASS = 2, EVICTED = 3;

    private static final Refusals.Setup[] OBJECTS = {
        CountedCache::new, Refusals::busy, AgreementTest::fullOfOneTenant, AgreementTest::fullOfForeignLines,
        AgreementTest::tenantsWithoutWays, AgreementTest::manyGains, AgreementTest::shortEpochs,
    };

    public static void main(String[] args) {
        for (int i = 0; i < OBJECTS.length; i++) {
            String of = "object " + i + ", ";
            ownersAndLines(of, OBJECTS[i].make());
            gainsAndTargets(of, OBJECTS[i].make());
            counts(of, OBJECTS[i].make());
            movesLeftIsTheNumberOfMoves(of, OBJECTS[i].make());
            everyAccessAsItWasTold(of, OBJECTS[i]);
            streamsAsTheirAccesses(of, OBJECTS[i]);
            textsAsTheirCalls(of, OBJECTS[i]);
            flushesAsTheLinesTell(of, OBJECTS[i]);
            sameCallsSameAnswers(of, OBJECTS[i]);
        }
        objectsAreApart();
        newObjectBesideAnother();
        Checks.end("AgreementTest");
    }

    // ---- the objects

    private static CountedCache fullOfOneTenant() {
        CountedCache x = new CountedCache();
        Checks.giveWays(x, "22222222");
        x.stream(2, 0, 1, 32);
        x.stream(2, 7, 5, 9);
        return x;
    }

    private static CountedCache fullOfForeignLines() {
        CountedCache x = new CountedCache();
        for (int tenant = 0; tenant < 4; tenant++) {
            x.stream(tenant, 0, 1, 8);
            x.stream(tenant, 0, 2, 3);
        }
        Checks.giveWays(x, "12301230");
        x.stream(1, 40, 1, 3);
        return x;
    }

    private static CountedCache tenantsWithoutWays() {
        CountedCache x = new CountedCache();
        x.stream(0, 0, 1, 6);
        x.stream(3, 0, 2, 6);
        Checks.giveWays(x, "11211211");
        x.stream(3, 2, 2, 9);
        x.stream(1, 1, 1, 30);
        return x;
    }

    private static CountedCache manyGains() {
        CountedCache x = new CountedCache();
        Checks.setLeasts(x, "0210");
        for (int tenant = 0; tenant < 4; tenant++) {
            for (int position = tenant; position < 8; position += tenant + 2) {
                Checks.giveGain(x, tenant, position, 9 + position - 2 * tenant);
            }
        }
        return x;
    }

    private static CountedCache shortEpochs() {
        CountedCache x = new CountedCache();
        x.setEpoch(3);
        Checks.giveWays(x, "30303030");
        x.stream(1, 0, 64, 10);
        x.stream(0, 0, 4, 20);
        x.stream(3, 0, 4, 11);
        return x;
    }

    // ---- one state

    /** waysOf, lines and save are numbers of what owner and line tell. */
    private static void ownersAndLines(String of, CountedCache x) {
        int all = 0;
        for (int tenant = 0; tenant < 4; tenant++) {
            int ways = 0;
            int lines = 0;
            int foreign = 0;
            for (int way = 0; way < 8; way++) {
                boolean own = x.owner(way) == tenant;
                ways += own ? 1 : 0;
                for (int set = 0; set < 4; set++) {
                    int line = x.line(set, way);
                    boolean here = line != NONE && line / 256 == tenant;
                    lines += here ? 1 : 0;
                    foreign += here && !own ? 1 : 0;
                }
            }
            all += lines;
            Checks.due(of + "waysOf(" + tenant + ")", x.waysOf(tenant), ways);
            Checks.due(of + "lines(" + tenant + ", false)", x.lines(tenant, false), lines);
            Checks.due(of + "lines(" + tenant + ", true)", x.lines(tenant, true), foreign);
        }
        Checks.due(of + "save(0)", x.save(0), all);
        Checks.due(of + "restore(0)", x.restore(0), all);
    }

    /** utility, totalUtility, movesLeft and halveGains are sums of what gain, waysOf and target tell. */
    private static void gainsAndTargets(String of, CountedCache x) {
        int total = 0;
        int lacking = 0;
        int targets = 0;
        int halves = 0;
        for (int tenant = 0; tenant < 4; tenant++) {
            int sum = 0;
            for (int ways = 0; ways <= 8; ways++) {
                Checks.due(of + "utility(" + tenant + ", " + ways + ")", x.utility(tenant, ways), sum);
                total += ways == x.waysOf(tenant) ? sum : 0;
                if (ways < 8) {
                    sum += x.gain(tenant, ways);
                    halves += x.gain(tenant, ways) / 2;
                }
            }
            int target = x.target(tenant);
            targets += target;
            lacking += Math.max(0, target - x.waysOf(tenant));
        }
        Checks.due(of + "the sum of the targets", targets, 8);
        Checks.due(of + "totalUtility()", x.totalUtility(), total);
        Checks.due(of + "movesLeft()", x.movesLeft(), lacking);
        Checks.due(of + "halveGains()", x.halveGains(), halves);
    }

    /** Each access has one result. */
    private static void counts(String of, CountedCache x) {
        int all = 0;
        for (int tenant = 0; tenant < 4; tenant++) {
            int hits = x.count(tenant, HIT);
            int made = x.count(tenant, MISS) + hits + x.count(tenant, BYPASS);
            Checks.due(of + "hitRate(" + tenant + ")", x.hitRate(tenant),
                    made == 0 ? 0.0 : (double) hits / (double) made);
            all += made;
        }
        Checks.due(of + "accesses()", x.accesses(), all);
    }

    /** "the number of ways that have to be moved until each tenant owns as many ways as its target" */
    private static void movesLeftIsTheNumberOfMoves(String of, CountedCache x) {
        String targets = Checks.targetsOf(x);
        for (int left = x.movesLeft(); left > 0; left--) {
            String before = Checks.ownersOf(x);
            int way = x.moveWay();
            Checks.due(of + "moveWay(): it moves a way", way != NONE, true);
            Checks.due(of + "moveWay(): of one way the owner changes",
                    before.charAt(way) != Checks.ownersOf(x).charAt(way), true);
            Checks.due(of + "movesLeft() after a move", x.movesLeft(), left - 1);
        }
        Checks.due(of + "moveWay() when none is left", x.moveWay(), NONE);
        for (int tenant = 0; tenant < 4; tenant++) {
            Checks.due(of + "waysOf(" + tenant + ") at last", x.waysOf(tenant), x.target(tenant));
        }
        Checks.due(of + "moves change no target", Checks.targetsOf(x), targets);
    }

    // ---- a call, and what tells of it before

    private static int[] places(CountedCache x) {
        int[] places = new int[32];
        for (int place = 0; place < 32; place++) {
            places[place] = x.line(place / 8, place % 8);
        }
        return places;
    }

    /** "Tells what an access would be now." "Tells which line a miss would evict now": for all there are. */
    private static void everyAccessAsItWasTold(String of, Refusals.Setup object) {
        for (int tenant = 0; tenant < 4; tenant++) {
            for (int address = 0; address < 256; address++) {
                accessAsItWasTold(of + "access(" + tenant + ", " + address + ")", object.make(), tenant, address);
            }
        }
    }

    private static void accessAsItWasTold(String call, CountedCache x, int tenant, int address) {
        int told = x.ifAccessed(tenant, address);
        int victim = x.victim(tenant, address);
        int loser = victim == NONE ? 0 : victim / 256;
        int[] before = places(x);
        int evicted = x.count(loser, EVICTED);
        int allEvicted = allEvicted(x);
        Checks.due(call + ", as ifAccessed told", x.access(tenant, address), told);
        Checks.due(call + ": the evictions of the victim's tenant", x.count(loser, EVICTED) - evicted,
                victim == NONE ? 0 : 1);
        Checks.due(call + ": all evictions", allEvicted(x) - allEvicted, victim == NONE ? 0 : 1);
        int[] after = places(x);
        int changed = 0;
        for (int place = 0; place < 32; place++) {
            if (before[place] != after[place]) {
                changed++;
                Checks.due(call + ": what stood in the place", before[place], victim);
                Checks.due(call + ": what stands there", after[place], 256 * tenant + address);
                Checks.due(call + ": the set", place / 8, address % 4);
            }
        }
        Checks.due(call + ": the places that change", changed, told == MISS ? 1 : 0);
    }

    private static int allEvicted(CountedCache x) {
        return x.count(0, EVICTED) + x.count(1, EVICTED) + x.count(2, EVICTED) + x.count(3, EVICTED);
    }

    /** "Removes all lines of a tenant", and no other: as many as lines() tells. */
    private static void flushesAsTheLinesTell(String of, Refusals.Setup object) {
        for (int tenant = 0; tenant < 4; tenant++) {
            CountedCache x = object.make();
            String call = of + "flush(" + tenant + ")";
            int lines = x.lines(tenant, false);
            int[] before = places(x);
            Checks.due(call, x.flush(tenant), lines);
            int[] after = places(x);
            for (int place = 0; place < 32; place++) {
                boolean own = before[place] != NONE && before[place] / 256 == tenant;
                Checks.due(call + ": place " + place, after[place], own ? NONE : before[place]);
            }
        }
    }

    // ---- calls that are made of others

    /** The state as queries tell it, with the next victims, the least numbers and the epoch length. */
    private static String state(CountedCache x) {
        // Calls that change nothing: six states are saved then, whatever was saved before.
        for (int i = 0; i < 6; i++) {
            x.giveWay(0, x.owner(0));
        }
        return Checks.looksOf(x) + Refusals.stampsLeastsAndEpoch(x);
    }

    /** "Makes several accesses of a tenant, one after the other" */
    private static void streamsAsTheirAccesses(String of, Refusals.Setup object) {
        int[][] streams = {{0, 0, 4, 30}, {1, 255, 1, 40}, {2, 254, 2, 40}, {3, 7, 64, 13}, {3, 0, 64, 40},
            {1, 100, 63, 1}};
        for (int[] s : streams) {
            CountedCache whole = object.make();
            CountedCache single = object.make();
            int hits = 0;
            for (int i = 0; i < s[3]; i++) {
                hits += single.access(s[0], (s[1] + i * s[2]) % 256) == HIT ? 1 : 0;
            }
            String call = of + "stream(" + s[0] + ", " + s[1] + ", " + s[2] + ", " + s[3] + ")";
            Checks.due(call, whole.stream(s[0], s[1], s[2], s[3]), hits);
            Checks.due(call + " and its accesses:", state(whole), state(single));
        }
    }

    /** "Executes all commands of the text in their order, as access(), flush(), moveWay() and halveGains() do." */
    private static void textsAsTheirCalls(String of, Refusals.Setup object) {
        String[] texts = {"m", "h", "f0", "f3", "0:0", "3:255", "m;m;m;m;m;m;m;m", "h;h", "1:16;1:20;1:16;m;1:16;h",
            "0:1;1:1;2:1;3:1;f2;0:1;1:1;2:1;3:1;m;h", "3:2;3:6;3:10;3:2;3:6;3:10;m;m;f0;3:2;h;2:2"};
        for (String text : texts) {
            CountedCache whole = object.make();
            CountedCache single = object.make();
            int hits = 0;
            for (String command : text.split(";")) {
                hits += make(single, command);
            }
            Checks.setText(whole, text);
            Checks.setText(single, text);
            String call = of + "runText() of \"" + text + "\"";
            Checks.due(call, whole.runText(), hits);
            Checks.due(call + " and its calls:", state(whole), state(single));
        }
    }

    private static int make(CountedCache x, String command) {
        switch (command.charAt(0)) {
            case 'm':
                x.moveWay();
                return 0;
            case 'h':
                x.halveGains();
                return 0;
            case 'f':
                x.flush(command.charAt(1) - '0');
                return 0;
            default:
                return x.access(command.charAt(0) - '0', Integer.parseInt(command.substring(2))) == HIT ? 1 : 0;
        }
    }

    // ---- several objects

    /** Eight calls, chosen by the number, and what they answer. */
    private static String mixedCalls(CountedCache x, int number) {
        int tenant = number * 7 % 4;
        StringBuilder answers = new StringBuilder();
        answers.append(x.stream(tenant, number * 29 % 256, 1 + number % 9, 1 + number % 5)).append(' ');
        answers.append(x.moveWay()).append(' ').append(x.giveWay(number * 5 % 8, tenant)).append(' ');
        answers.append(Checks.outcome(() -> number % 4 == 0 ? x.undo() : x.access(tenant, number))).append(' ');
        answers.append(Checks.outcome(() -> number % 3 == 0 ? x.save(number % 2) : x.restore(number % 2)));
        answers.append(' ').append(x.appendText('0' + number % 4)).append(' ').append(x.target(tenant));
        return answers.append(' ').append(x.movesLeft()).append('\n').toString();
    }

    private static String mixedCalls(CountedCache x, int first, int step) {
        StringBuilder answers = new StringBuilder();
        for (int i = 0; i < 15; i++) {
            answers.append(mixedCalls(x, first + i * step));
        }
        return answers.append(Checks.looksOf(x)).toString();
    }

    /** The same calls on two objects that were made in the same way have the same answers. */
    private static void sameCallsSameAnswers(String of, Refusals.Setup object) {
        Checks.due(of + "the same calls:", mixedCalls(object.make(), 0, 1), mixedCalls(object.make(), 0, 1));
    }

    /** What one object is asked by turns with another does not reach the other: text, saved states and slots too. */
    private static void objectsAreApart() {
        CountedCache x = new CountedCache();
        CountedCache y = new CountedCache();
        StringBuilder ofX = new StringBuilder();
        StringBuilder ofY = new StringBuilder();
        for (int i = 0; i < 15; i++) {
            ofX.append(mixedCalls(x, i));
            ofY.append(mixedCalls(y, 40 - i));
        }
        Checks.due("one of two objects:", ofX + Checks.looksOf(x), mixedCalls(new CountedCache(), 0, 1));
        Checks.due("the other of two objects:", ofY + Checks.looksOf(y), mixedCalls(new CountedCache(), 40, -1));
    }

    /** "Creates an empty cache.": also when there is one that is not empty. */
    private static void newObjectBesideAnother() {
        CountedCache first = new CountedCache();
        String empty = Checks.looksOf(first);
        CountedCache busy = Refusals.busy();
        String before = Checks.looksOf(busy);
        CountedCache x = new CountedCache();
        Checks.due("a new object beside another:", Checks.looksOf(x), empty);
        Checks.due("a new object beside another: undo()", Checks.outcome(x::undo), Refusals.BAD_STATE);
        Checks.due("a new object beside another: restore(1)", Checks.outcome(() -> x.restore(1)), Refusals.BAD_STATE);
        Checks.due("the other object:", Checks.looksOf(busy), before);
    }
}
