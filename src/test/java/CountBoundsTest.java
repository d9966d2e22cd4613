/** Promises 28 to 33 at their boundaries, and the 512 calls of "What it is". */
final class CountBoundsTest {
    private static final int LAST = 512;

    public static void main(String[] args) {
        firstCounts();
        countsOfEachResult();
        countsOfEachTenant();
        countsOutliveTheLines();
        hitRateOfNoAccess();
        hitRateOfMissesAndBypasses();
        hitRateOfHits();
        hitRateIsNotRounded();
        mostAccesses();
        mostEvictions();
        greatestGain();
        lastCallOfEachKind();
        sixSavedStatesAtTheLastCall();
        slotsAtTheLastCall();
        stampsAtTheLastCall();
        epochAtTheLastCall();
        noCallFailsLater();
        Checks.end("CountBoundsTest");
    }

    /** "Creates an empty cache." */
    private static void firstCounts() {
        CountedCache x = new CountedCache();
        for (int tenant = 0; tenant < 4; tenant++) {
            for (int what = 0; what <= 3; what++) {
                Checks.due("first count(" + tenant + ", " + what + ")", x.count(tenant, what), 0);
            }
            Checks.due("first hitRate(" + tenant + ")", x.hitRate(tenant), 0.0);
        }
        Checks.due("first accesses()", x.accesses(), 0);
        Checks.due("first totalUtility()", x.totalUtility(), 0);
        Checks.due("first savedStates()", x.savedStates(), 0);
        Checks.due("first textLength()", x.textLength(), 0);
    }

    /** "MISS, HIT or BYPASS: the number of its accesses with this result; 3: ... its lines that were evicted" */
    private static void countsOfEachResult() {
        CountedCache x = new CountedCache();
        x.stream(2, 0, 4, 5);
        x.stream(2, 12, 4, 2);
        x.giveWay(2, 0);
        x.giveWay(6, 0);
        x.stream(2, 0, 1, 4);
        Checks.due("each: count(2, MISS)", x.count(2, 0), 5);
        Checks.due("each: count(2, HIT)", x.count(2, 1), 2);
        Checks.due("each: count(2, BYPASS)", x.count(2, 2), 4);
        Checks.due("each: count(2, 3)", x.count(2, 3), 3);
        Checks.due("each: accesses()", x.accesses(), 11);
    }

    private static void countsOfEachTenant() {
        CountedCache x = new CountedCache();
        for (int tenant = 0; tenant < 4; tenant++) {
            x.stream(tenant, 0, 4, tenant + 3);
            x.stream(tenant, 4 * (tenant + 2), 1, 1);
        }
        for (int tenant = 0; tenant < 4; tenant++) {
            Checks.due("count(" + tenant + ", MISS)", x.count(tenant, 0), tenant + 3);
            Checks.due("count(" + tenant + ", HIT)", x.count(tenant, 1), 1);
            Checks.due("count(" + tenant + ", BYPASS)", x.count(tenant, 2), 0);
            Checks.due("count(" + tenant + ", 3)", x.count(tenant, 3), tenant + 1);
            Checks.due("hitRate(" + tenant + ")", x.hitRate(tenant), 1.0 / (tenant + 4));
        }
        Checks.due("accesses()", x.accesses(), 22);
    }

    /** Only an access counts, and no call but undo and restore takes a count back. */
    private static void countsOutliveTheLines() {
        CountedCache x = new CountedCache();
        x.stream(0, 0, 4, 3);
        x.flush(0);
        x.halveGains();
        Checks.due("flushed: count(0, MISS)", x.count(0, 0), 3);
        Checks.due("flushed: count(0, 3)", x.count(0, 3), 1);
        Checks.due("flushed: accesses()", x.accesses(), 3);
    }

    /** "0.0 if it has made no access" */
    private static void hitRateOfNoAccess() {
        CountedCache x = new CountedCache();
        x.stream(1, 0, 64, 40);
        Checks.due("hitRate(0) when others have made some", x.hitRate(0), 0.0);
        x.access(0, 0);
        x.access(0, 0);
        Checks.due("hitRate(0) after two", x.hitRate(0), 0.5);
        x.undo();
        x.undo();
        Checks.due("hitRate(0) when all are undone", x.hitRate(0), 0.0);
    }

    /** A bypass is an access, and no hit. */
    private static void hitRateOfMissesAndBypasses() {
        CountedCache x = new CountedCache();
        x.access(0, 0);
        Checks.due("hitRate(0) of a miss", x.hitRate(0), 0.0);
        x.giveWay(1, 0);
        x.giveWay(5, 0);
        x.access(1, 0);
        Checks.due("hitRate(1) of a bypass", x.hitRate(1), 0.0);
        x.access(0, 0);
        x.giveWay(0, 2);
        x.giveWay(1, 2);
        x.giveWay(4, 2);
        x.giveWay(5, 2);
        x.stream(0, 1, 1, 3);
        Checks.due("hitRate(0) of a miss, a hit and three bypasses", x.hitRate(0), 0.2);
    }

    private static void hitRateOfHits() {
        CountedCache x = new CountedCache();
        x.access(3, 0);
        for (int i = 0; i < 49; i++) {
            x.stream(3, 0, 1, 1);
        }
        Checks.due("hitRate(3) of 49 in 50", x.hitRate(3), 0.98);
    }

    /** "the number of its hits, converted to double, divided by the number of its accesses, converted to double" */
    private static void hitRateIsNotRounded() {
        CountedCache x = new CountedCache();
        x.stream(1, 0, 1, 2);
        x.access(1, 0);
        Checks.due("hitRate(1) of 1 in 3", x.hitRate(1), 1.0 / 3.0);
        x.stream(1, 2, 1, 4);
        Checks.due("hitRate(1) of 1 in 7", x.hitRate(1), 1.0 / 7.0);
    }

    // ---- "An object is used for at most 512 calls after it has been made"

    /** As many streams of the greatest count as there are calls: 511 streams, 20440 accesses. */
    private static CountedCache afterStreams(int tenant, int address, int step) {
        CountedCache x = new CountedCache();
        for (int i = 0; i < LAST - 1; i++) {
            x.stream(tenant, address, step, 40);
        }
        return x;
    }

    private static void mostAccesses() {
        Checks.due("call 512: accesses()", afterStreams(2, 3, 4).accesses(), 20440);
        Checks.due("call 512: count(2, MISS)", afterStreams(2, 3, 4).count(2, 0), 20440);
        Checks.due("call 512: count(2, HIT)", afterStreams(2, 3, 64).count(2, 1), 0);
        Checks.due("call 512: hitRate(2)", afterStreams(2, 0, 64).hitRate(2), 0.0);
        CountedCache x = new CountedCache();
        x.giveWay(2, 1);
        x.giveWay(3, 1);
        for (int i = 0; i < LAST - 3; i++) {
            x.stream(1, 0, 64, 40);
        }
        Checks.due("call 512: hitRate(1)", x.hitRate(1), 20356.0 / 20360.0);
        Checks.due("and no call is left", x.callsLeft(), 0);
    }

    private static void mostEvictions() {
        Checks.due("call 512: count(2, 3)", afterStreams(2, 3, 4).count(2, 3), 20438);
    }

    private static void greatestGain() {
        Checks.due("call 512: gain(1, 3)", afterStreams(1, 0, 64).gain(1, 3), 20436);
        Checks.due("call 512: utility(1, 8)", afterStreams(1, 0, 64).utility(1, 8), 20436);
        Checks.due("call 512: totalUtility()", afterStreams(1, 0, 64).totalUtility(), 0);
        Checks.due("call 512: halveGains()", afterStreams(1, 0, 64).halveGains(), 10218);
        Checks.due("call 512: target(1)", afterStreams(1, 0, 64).target(1), 4);
        Checks.due("call 512: movesLeft()", afterStreams(1, 0, 64).movesLeft(), 2);
        Checks.due("call 512: moveWay()", afterStreams(1, 0, 64).moveWay(), 2);
    }

    private static void lastCallOfEachKind() {
        Checks.due("call 512: access(0, 252)", afterStreams(0, 0, 4).access(0, 252), 0);
        Checks.due("call 512: stream(0, 0, 4, 40)", afterStreams(0, 0, 4).stream(0, 0, 4, 40), 0);
        // 156 is the last address of a stream
        Checks.due("call 512: line(0, 4)", afterStreams(0, 0, 4).line(0, 4), 156);
        Checks.due("call 512: line(0, 0)", afterStreams(0, 0, 4).line(0, 0), 152);
        Checks.due("call 512: victim(0, 252)", afterStreams(0, 0, 4).victim(0, 252), 152);
        Checks.due("call 512: flush(0)", afterStreams(0, 0, 1).flush(0), 8);
        Checks.due("call 512: monitored(0, 0, 7)", afterStreams(0, 0, 4).monitored(0, 0, 7), 128);
        Checks.due("call 512: savedStates()", afterStreams(0, 0, 4).savedStates(), 6);
        CountedCache x = afterStreams(0, 0, 4);
        Checks.due("call 512: access(4, 256)", Checks.outcome(() -> x.access(4, 256)), Refusals.OUT_OF_BOUNDS);
    }

    private static void sixSavedStatesAtTheLastCall() {
        CountedCache x = new CountedCache();
        for (int i = 0; i < LAST - 8; i++) {
            x.stream(0, 0, 4, 40);
        }
        for (int i = 5; i >= 0; i--) {
            Checks.due("calls 505 to 510: undo()", x.undo(), i);
        }
        Checks.due("call 511: undo()", Checks.outcome(x::undo), Refusals.BAD_STATE);
        Checks.due("call 512: accesses()", x.accesses(), 40 * (504 - 6));
    }

    private static void slotsAtTheLastCall() {
        CountedCache x = new CountedCache();
        x.stream(0, 0, 1, 5);
        x.save(1);
        for (int i = 0; i < LAST - 3; i++) {
            x.stream(0, 0, 1, 40);
        }
        Checks.due("call 512: restore(1)", x.restore(1), 5);
    }

    /** A stamp of more than 20000 is greater than all before. */
    private static void stampsAtTheLastCall() {
        CountedCache x = new CountedCache();
        for (int i = 0; i < LAST - 4; i++) {
            x.stream(3, 1, 4, 40);
        }
        x.access(0, 0);
        x.access(0, 4);
        x.access(0, 0);
        Checks.due("call 512: victim(0, 8)", x.victim(0, 8), 4);
    }

    private static void epochAtTheLastCall() {
        CountedCache x = new CountedCache();
        x.setEpoch(200);
        for (int i = 0; i < LAST - 2; i++) {
            x.stream(0, 0, 64, 40);
        }
        // each epoch brings 200 and halves; 510 streams end just with an epoch
        Checks.due("call 512: gain(0, 3)", x.gain(0, 3), 199);
    }

    /** What later calls answer is free, but none fails by itself, and each has an end. */
    private static void noCallFailsLater() {
        PartitionedCache x = new PartitionedCache();
        for (int i = 0; i < 200000; i++) {
            int tenant = i % 6 - 1;
            int address = i * 37 % 260 - 2;
            int call = i;
            Object outcome = Checks.outcome(() -> laterCall(x, call, tenant, address));
            if (outcome instanceof String) {
                boolean documented = outcome.equals(Refusals.OUT_OF_BOUNDS) || outcome.equals(Refusals.BAD_ARGUMENT)
                        || outcome.equals(Refusals.BAD_STATE);
                Checks.due("later call " + i + " (" + outcome + ")", documented, true);
            }
        }
    }

    private static Object laterCall(PartitionedCache x, int call, int tenant, int address) {
        switch (call % 23) {
            case 0:
                return x.access(tenant, address);
            case 1:
                return x.stream(tenant, address, call % 67, call % 43);
            case 2:
                return x.flush(tenant);
            case 3:
                return x.moveWay();
            case 4:
                return x.giveWay(call % 10 - 1, tenant);
            case 5:
                return x.setLeast(tenant, call % 5 - 1);
            case 6:
                return x.setEpoch(call % 204 - 1);
            case 7:
                return x.halveGains();
            case 8:
                return x.appendText("0:1;2:255;m;h;f3;".charAt(call / 23 % 17));
            case 9:
                return call % 5 == 0 ? x.clearText() : x.errorPosition();
            case 10:
                return x.runText();
            case 11:
                return x.undo();
            case 12:
                return x.save(call % 4 - 1);
            case 13:
                return x.restore(call % 4 - 1);
            case 14:
                return x.line(tenant, call % 10 - 1);
            case 15:
                return x.lines(tenant, call % 2 == 0);
            case 16:
                return x.victim(tenant, address);
            case 17:
                return x.monitored(tenant, call % 5 - 1, call % 10 - 1);
            case 18:
                return x.target(tenant);
            case 19:
                return x.movesLeft() + x.totalUtility();
            case 20:
                return x.count(tenant, call % 6 - 1);
            case 21:
                return x.hitRate(tenant);
            default:
                return x.utility(tenant, call % 11 - 1);
        }
    }
}
