/** Promises 1 to 4: a new object, access, stream, flush. */
final class AccessTest {
    public static void main(String[] args) {
        newObject();
        accessFillsOwnWays();
        accessEvictsTheLeastStamp();
        accessToForeignLines();
        accessWithoutWays();
        accessEndsEpochs();
        streamSteps();
        streamIsOneCall();
        streamEndsEpochs();
        flushRemoves();
        Checks.end("AccessTest");
    }

    private static void newObject() {
        CountedCache x = new CountedCache();
        for (int way = 0; way < 8; way++) {
            Checks.due("new: owner(" + way + ")", x.owner(way), way % 4);
            for (int set = 0; set < 4; set++) {
                Checks.due("new: line(" + set + ", " + way + ")", x.line(set, way), -1);
            }
        }
        for (int t = 0; t < 4; t++) {
            Checks.due("new: waysOf(" + t + ")", x.waysOf(t), 2);
            Checks.due("new: target(" + t + ")", x.target(t), 2);
            Checks.due("new: hitRate(" + t + ")", x.hitRate(t), 0.0);
            for (int i = 0; i < 8; i++) {
                Checks.due("new: gain(" + t + ", " + i + ")", x.gain(t, i), 0);
                Checks.due("new: monitored(" + t + ", 0, " + i + ")", x.monitored(t, 0, i), -1);
                Checks.due("new: monitored(" + t + ", 2, " + i + ")", x.monitored(t, 2, i), -1);
            }
        }
        Checks.due("new: accesses()", x.accesses(), 0);
        Checks.due("new: savedStates()", x.savedStates(), 0);
        Checks.due("new: textLength()", x.textLength(), 0);
        Checks.due("new: first least number", x.setLeast(2, 1), 1);
        Checks.due("new: first epoch length", x.setEpoch(0), 0);
    }

    private static void accessFillsOwnWays() {
        CountedCache x = new CountedCache();
        Checks.due("fill: access(2, 255)", x.access(2, 255), 0);
        Checks.due("fill: line(3, 2)", x.line(3, 2), 2 * 256 + 255);
        Checks.due("fill: access(2, 3)", x.access(2, 3), 0);
        Checks.due("fill: line(3, 6)", x.line(3, 6), 2 * 256 + 3);
        Checks.due("fill: access(3, 3)", x.access(3, 3), 0);
        Checks.due("fill: line(3, 3)", x.line(3, 3), 3 * 256 + 3);
        Checks.due("fill: access(2, 255) again", x.access(2, 255), 1);
        Checks.due("fill: accesses()", x.accesses(), 4);
        Checks.due("fill: savedStates()", x.savedStates(), 4);
        x.giveWay(0, 2);
        Checks.due("fill: access(2, 7)", x.access(2, 7), 0);
        Checks.due("fill: the empty place with the lowest way", x.line(3, 0), 2 * 256 + 7);
    }

    private static void accessEvictsTheLeastStamp() {
        CountedCache x = new CountedCache();
        x.access(0, 0);
        x.access(0, 4);
        x.access(0, 0);
        Checks.due("evict: access(0, 8)", x.access(0, 8), 0);
        Checks.due("evict: the line that was hit stays", x.line(0, 0), 0);
        Checks.due("evict: line(0, 4)", x.line(0, 4), 8);
        Checks.due("evict: count(0, 3)", x.count(0, 3), 1);
        Checks.due("evict: access(0, 12)", x.access(0, 12), 0);
        Checks.due("evict: line(0, 0)", x.line(0, 0), 12);
    }

    private static void accessToForeignLines() {
        CountedCache x = new CountedCache();
        x.access(0, 1);
        x.giveWay(0, 1);
        Checks.due("foreign: a foreign line is a hit", x.access(0, 1), 1);
        Checks.due("foreign: access(1, 1)", x.access(1, 1), 0);
        Checks.due("foreign: the empty own way 1", x.line(1, 1), 257);
        x.access(1, 5);
        Checks.due("foreign: the empty own way 5", x.line(1, 5), 261);
        x.access(1, 1);
        Checks.due("foreign: access(1, 9)", x.access(1, 9), 0);
        Checks.due("foreign: the foreign line had the least stamp", x.line(1, 0), 265);
        Checks.due("foreign: the eviction is the line's tenant's", x.count(0, 3), 1);
        Checks.due("foreign: and not the accessing tenant's", x.count(1, 3), 0);
    }

    private static void accessWithoutWays() {
        CountedCache x = new CountedCache();
        x.access(3, 2);
        x.giveWay(3, 0);
        x.giveWay(7, 0);
        Checks.due("bypass: access(3, 2) is still a hit", x.access(3, 2), 1);
        Checks.due("bypass: access(3, 6)", x.access(3, 6), 2);
        Checks.due("bypass: accesses()", x.accesses(), 3);
        Checks.due("bypass: lines(3, false)", x.lines(3, false), 1);
        Checks.due("bypass: the monitor is updated", x.monitored(3, 2, 0), 6);
        Checks.due("bypass: access(3, 2) once more", x.access(3, 2), 1);
        Checks.due("bypass: gain(3, 1)", x.gain(3, 1), 1);
    }

    private static void accessEndsEpochs() {
        CountedCache x = new CountedCache();
        x.setEpoch(4);
        x.setLeast(1, 2);
        x.setLeast(2, 0);
        x.setLeast(3, 0);
        x.access(0, 0);
        x.access(0, 0);
        x.access(0, 0);
        Checks.due("epoch: before, gain(0, 0)", x.gain(0, 0), 2);
        Checks.due("epoch: before, owner(2)", x.owner(2), 2);
        Checks.due("epoch: access(0, 4) is the fourth", x.access(0, 4), 0);
        Checks.due("epoch: gain(0, 0)", x.gain(0, 0), 1);
        x.access(1, 9);
        x.access(1, 9);
        x.access(2, 9);
        Checks.due("epoch: 3 accesses later, gain(0, 0)", x.gain(0, 0), 1);
        x.giveWay(0, 2);
        // tenant 0 has the target 2 and one way, tenant 2 the target 2 and three
        Checks.due("epoch: movesLeft()", x.movesLeft(), 1);
        Checks.due("epoch: access(3, 1) is the eighth", x.access(3, 1), 0);
        Checks.due("epoch: a way is moved", x.owner(0), 0);
        Checks.due("epoch: the gains are halved after it", x.gain(0, 0), 0);
        x.setEpoch(3);
        x.access(3, 0);
        x.access(3, 0);
        Checks.due("epoch: hits end epochs too: access 10", x.gain(3, 0), 1);
        x.access(3, 0);
        x.access(3, 0);
        Checks.due("epoch: access 12 halves", x.gain(3, 0), 1);
        x.access(3, 0);
        x.setEpoch(0);
        x.access(3, 0);
        x.access(3, 0);
        Checks.due("epoch: none with the length 0", x.gain(3, 0), 4);
        bypassEndsEpoch();
    }

    private static void bypassEndsEpoch() {
        CountedCache x = new CountedCache();
        x.setEpoch(1);
        x.giveWay(3, 0);
        x.giveWay(7, 0);
        Checks.due("epoch: access(3, 5)", x.access(3, 5), 2);
        Checks.due("epoch: a bypass ends it too", x.owner(0), 3);
        Checks.due("epoch: one way alone is moved", x.waysOf(0), 3);
    }

    private static void streamSteps() {
        CountedCache x = new CountedCache();
        Checks.due("stream(1, 254, 3, 3)", x.stream(1, 254, 3, 3), 0);
        Checks.due("stream: 254", x.line(2, 1), 256 + 254);
        Checks.due("stream: 257 is 1", x.line(1, 1), 256 + 1);
        Checks.due("stream: 260 is 4", x.line(0, 1), 256 + 4);
        Checks.due("stream: accesses()", x.accesses(), 3);
        Checks.due("stream(1, 254, 3, 3) again", x.stream(1, 254, 3, 3), 3);
        Checks.due("stream(0, 0, 64, 40)", x.stream(0, 0, 64, 40), 0);
        Checks.due("stream: 64 times 4 comes back to 0", x.gain(0, 3), 36);
        Checks.due("stream(2, 255, 1, 1)", x.stream(2, 255, 1, 1), 0);
        Checks.due("stream(2, 255, 1, 1) again", x.stream(2, 255, 1, 1), 1);
    }

    private static void streamIsOneCall() {
        CountedCache x = new CountedCache();
        x.stream(0, 0, 1, 40);
        Checks.due("stream: savedStates()", x.savedStates(), 1);
        x.undo();
        Checks.due("stream: undone", Checks.looksOf(x), Checks.looksOf(new CountedCache()));
    }

    private static void streamEndsEpochs() {
        CountedCache x = new CountedCache();
        x.setEpoch(2);
        for (int way = 1; way < 8; way++) {
            x.giveWay(way, 0);
        }
        // all targets are 2, so each epoch takes one way from tenant 0
        x.stream(0, 1, 4, 5);
        Checks.due("stream: two epochs end", x.waysOf(0), 6);
        Checks.due("stream: waysOf(1)", x.waysOf(1), 1);
        Checks.due("stream: waysOf(2)", x.waysOf(2), 1);
    }

    private static void flushRemoves() {
        CountedCache x = new CountedCache();
        x.stream(0, 0, 1, 8);
        x.access(1, 0);
        x.giveWay(4, 1);
        Checks.due("flush(0)", x.flush(0), 8);
        Checks.due("flush: lines(0, false)", x.lines(0, false), 0);
        Checks.due("flush: line(0, 0)", x.line(0, 0), -1);
        Checks.due("flush: foreign lines go too", x.line(0, 4), -1);
        Checks.due("flush: other tenants' lines stay", x.line(0, 1), 256);
        Checks.due("flush: no eviction is counted", x.count(0, 3), 0);
        Checks.due("flush: the monitor stays", x.monitored(0, 0, 0), 4);
        Checks.due("flush(0) again", x.flush(0), 0);
        Checks.due("flush: savedStates()", x.savedStates(), 5);
        x.undo();
        x.undo();
        Checks.due("flush: undone", x.lines(0, false), 8);
        x.flush(3);
        Checks.due("flush: ifAccessed(0, 0)", x.ifAccessed(0, 0), 1);
    }
}
