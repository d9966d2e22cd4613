/** Promises 5 to 9: moveWay, giveWay, setLeast, setEpoch, halveGains. */
final class PartitionTest {
    public static void main(String[] args) {
        moveWayWithoutDeficit();
        moveWayTakesTheEmptiest();
        moveWayAmongEquals();
        moveWayCountsTheDonorsLines();
        moveWayOfFullWays();
        giveWay();
        setLeast();
        setEpoch();
        halveGains();
        Checks.end("PartitionTest");
    }

    private static void moveWayWithoutDeficit() {
        CountedCache x = new CountedCache();
        Checks.due("no deficit: moveWay()", x.moveWay(), -1);
        Checks.due("no deficit: a state is saved all the same", x.savedStates(), 1);
        Checks.due("no deficit: owner(0)", x.owner(0), 0);
    }

    private static void moveWayTakesTheEmptiest() {
        CountedCache x = new CountedCache();
        x.giveWay(1, 0);
        // tenant 0 owns 0, 1 and 4, and has lines in 0 (two) and in 1 (one) and in 4 (one)
        x.access(0, 0);
        x.access(0, 1);
        x.access(0, 4);
        x.access(0, 8);
        Checks.due("emptiest: line(1, 0)", x.line(1, 0), 1);
        Checks.due("emptiest: moveWay()", x.moveWay(), 1);
        Checks.due("emptiest: owner(1)", x.owner(1), 1);
        Checks.due("emptiest: the line stays", x.line(0, 1), 4);
        Checks.due("emptiest: it is foreign then", x.lines(0, true), 1);
        Checks.due("emptiest: moveWay() again", x.moveWay(), -1);
        x.undo();
        x.undo();
        Checks.due("emptiest: undone", x.owner(1), 0);
    }

    private static void moveWayAmongEquals() {
        CountedCache x = new CountedCache();
        for (int way = 0; way < 8; way++) {
            x.giveWay(way, way < 4 ? 1 : 2);
        }
        // tenants 0 and 3 lack two each, tenants 1 and 2 have two too many each
        Checks.due("equals: first move, of the lowest way", x.moveWay(), 0);
        Checks.due("equals: to the lowest tenant", x.owner(0), 0);
        Checks.due("equals: second move, from tenant 2", x.moveWay(), 4);
        Checks.due("equals: to tenant 3, which lacks most", x.owner(4), 3);
        Checks.due("equals: third move", x.moveWay(), 1);
        Checks.due("equals: owner(1)", x.owner(1), 0);
        Checks.due("equals: fourth move", x.moveWay(), 5);
        Checks.due("equals: owner(5)", x.owner(5), 3);
        Checks.due("equals: fifth move", x.moveWay(), -1);
    }

    private static void moveWayCountsTheDonorsLines() {
        CountedCache x = new CountedCache();
        x.access(1, 0);
        x.access(1, 1);
        x.access(1, 2);
        x.giveWay(1, 0);
        x.access(0, 0);
        x.access(0, 4);
        // way 1 holds three lines of tenant 1 and none of tenant 0
        Checks.due("donor's lines: moveWay()", x.moveWay(), 1);
        x.undo();
        x.access(0, 1);
        x.access(0, 5);
        x.access(0, 8);
        Checks.due("donor's lines: line(0, 1)", x.line(0, 1), 8);
        // ways 0 and 4 hold two lines of tenant 0 each, way 1 holds one, beside two of tenant 1
        Checks.due("donor's lines: moveWay() again", x.moveWay(), 1);
    }

    private static void moveWayOfFullWays() {
        CountedCache x = new CountedCache();
        x.giveWay(1, 0);
        x.stream(0, 0, 1, 12);
        Checks.due("full ways: lines(0, false)", x.lines(0, false), 12);
        Checks.due("full ways: moveWay()", x.moveWay(), 0);
    }

    private static void giveWay() {
        CountedCache x = new CountedCache();
        x.access(3, 9);
        Checks.due("giveWay(7, 0)", x.giveWay(7, 0), 3);
        Checks.due("giveWay(7, 1)", x.giveWay(7, 1), 0);
        Checks.due("giveWay(7, 1) again", x.giveWay(7, 1), 1);
        Checks.due("giveWay(3, 1)", x.giveWay(3, 1), 3);
        Checks.due("giveWay: the line stays", x.line(1, 3), 3 * 256 + 9);
        Checks.due("giveWay: waysOf(3)", x.waysOf(3), 0);
        Checks.due("giveWay: waysOf(1)", x.waysOf(1), 4);
        Checks.due("giveWay: savedStates()", x.savedStates(), 5);
        x.undo();
        Checks.due("giveWay: undone", x.owner(3), 3);
    }

    private static void setLeast() {
        CountedCache x = new CountedCache();
        Checks.due("setLeast(3, 2)", x.setLeast(3, 2), 1);
        Checks.due("setLeast(3, 0)", x.setLeast(3, 0), 2);
        Checks.due("setLeast: ways are not moved", x.waysOf(3), 2);
        Checks.due("setLeast: savedStates()", x.savedStates(), 2);
        x.undo();
        Checks.due("setLeast: undone", x.setLeast(3, 1), 2);
        for (int t = 0; t < 4; t++) {
            x.setLeast(t, 2);
        }
        x.stream(0, 0, 4, 8);
        x.stream(0, 0, 4, 8);
        Checks.due("setLeast: 2 for all leaves no rest", x.target(0), 2);
        x.setLeast(3, 0);
        Checks.due("setLeast: without gains in reach, the lowest gets more", x.target(3), 2);
        x.stream(0, 0, 4, 2);
        x.setLeast(0, 0);
        Checks.due("setLeast: gain at position 7 is out of reach of the rest 4", x.target(0), 2);
    }

    private static void setEpoch() {
        CountedCache x = new CountedCache();
        Checks.due("setEpoch(200)", x.setEpoch(200), 0);
        Checks.due("setEpoch(3)", x.setEpoch(3), 200);
        Checks.due("setEpoch: savedStates()", x.savedStates(), 2);
        Checks.due("setEpoch(0)", x.setEpoch(0), 3);
        x.undo();
        Checks.due("setEpoch: undone", x.setEpoch(0), 3);
    }

    private static void halveGains() {
        CountedCache x = new CountedCache();
        x.stream(0, 0, 4, 1);
        x.stream(0, 0, 64, 40); // the gain at position 0 becomes 1, that at position 3 becomes 36
        x.access(2, 6);
        x.access(2, 6);
        x.access(2, 6);
        x.access(2, 6);
        Checks.due("halve: gain(0, 0)", x.gain(0, 0), 1);
        Checks.due("halve: gain(0, 3)", x.gain(0, 3), 36);
        Checks.due("halve: gain(2, 0)", x.gain(2, 0), 3);
        Checks.due("halveGains()", x.halveGains(), 19);
        Checks.due("halve: gain(0, 0) after it", x.gain(0, 0), 0);
        Checks.due("halve: gain(2, 0) after it", x.gain(2, 0), 1);
        Checks.due("halve: the lists stay", x.monitored(2, 2, 0), 6);
        Checks.due("halveGains() again", x.halveGains(), 9);
        x.undo();
        x.undo();
        Checks.due("halve: undone", x.gain(0, 3), 36);
        x.stream(0, 16, 64, 13); // only the gain at position 3 grows, by 9
        x.access(0, 16);
        Checks.due("halve: gain(0, 0) before", x.gain(0, 0), 2);
        Checks.due("halveGains() with a first gain of 2", x.halveGains(), 1 + 45 / 2 + 1);
        CountedCache y = new CountedCache();
        Checks.due("halveGains() of a new object", y.halveGains(), 0);
        Checks.due("halve: a state is saved all the same", y.savedStates(), 1);
    }
}
