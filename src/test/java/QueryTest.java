/** Promises 17 to 22: owner, waysOf, line, lines, ifAccessed, victim. */
final class QueryTest {
    public static void main(String[] args) {
        ownerAndWays();
        line();
        lines();
        ifAccessed();
        victim();
        queriesChangeNothing();
        Checks.end("QueryTest");
    }

    private static void ownerAndWays() {
        CountedCache x = new CountedCache();
        x.giveWay(5, 2);
        Checks.due("owner(5)", x.owner(5), 2);
        Checks.due("owner(1)", x.owner(1), 1);
        Checks.due("waysOf(1)", x.waysOf(1), 1);
        Checks.due("waysOf(2)", x.waysOf(2), 3);
        for (int way = 0; way < 8; way++) {
            x.giveWay(way, 3);
        }
        Checks.due("waysOf(3)", x.waysOf(3), 8);
        Checks.due("waysOf(0)", x.waysOf(0), 0);
    }

    private static void line() {
        CountedCache x = new CountedCache();
        x.access(0, 0);
        x.access(3, 255);
        Checks.due("line(0, 0)", x.line(0, 0), 0);
        Checks.due("line(3, 3)", x.line(3, 3), 1023);
        Checks.due("line(3, 7)", x.line(3, 7), -1);
    }

    private static void lines() {
        CountedCache x = new CountedCache();
        x.stream(0, 0, 1, 8);
        x.stream(1, 0, 1, 3);
        Checks.due("lines(0, false)", x.lines(0, false), 8);
        Checks.due("lines(0, true)", x.lines(0, true), 0);
        x.giveWay(4, 1);
        Checks.due("lines(0, true) of a way given away", x.lines(0, true), 4);
        Checks.due("lines(0, false) of a way given away", x.lines(0, false), 8);
        Checks.due("lines(1, true)", x.lines(1, true), 0);
        Checks.due("lines(1, false)", x.lines(1, false), 3);
        Checks.due("lines(2, false)", x.lines(2, false), 0);
        x.giveWay(0, 3);
        Checks.due("lines(0, true) without a way", x.lines(0, true), 8);
    }

    private static void ifAccessed() {
        CountedCache x = new CountedCache();
        x.access(2, 7);
        Checks.due("ifAccessed(2, 7)", x.ifAccessed(2, 7), 1);
        Checks.due("ifAccessed(2, 3)", x.ifAccessed(2, 3), 0);
        Checks.due("ifAccessed(1, 7)", x.ifAccessed(1, 7), 0);
        Checks.due("ifAccessed(3, 255)", x.ifAccessed(3, 255), 0);
        x.giveWay(2, 1);
        x.giveWay(6, 1);
        Checks.due("ifAccessed(2, 7) of a foreign line", x.ifAccessed(2, 7), 1);
        Checks.due("ifAccessed(2, 3) without a way", x.ifAccessed(2, 3), 2);
    }

    private static void victim() {
        CountedCache x = new CountedCache();
        Checks.due("victim(1, 0) of the empty cache", x.victim(1, 0), -1);
        x.access(1, 0);
        Checks.due("victim(1, 4) with one empty place", x.victim(1, 4), -1);
        Checks.due("victim(3, 255)", x.victim(3, 255), -1);
        x.access(1, 4);
        Checks.due("victim(1, 8)", x.victim(1, 8), 256);
        Checks.due("victim(1, 0) of a hit", x.victim(1, 0), -1);
        x.access(1, 0);
        Checks.due("victim(1, 8) after a hit", x.victim(1, 8), 260);
        Checks.due("victim(1, 9) in another set", x.victim(1, 9), -1);
        x.giveWay(1, 2);
        x.access(2, 0);
        x.access(2, 4);
        Checks.due("victim(2, 8) is another tenant's line", x.victim(2, 8), 256);
        x.giveWay(5, 2);
        Checks.due("victim(1, 8) of a bypass", x.victim(1, 8), -1);
        Checks.due("victim(2, 8) with way 5 too", x.victim(2, 8), 260);
        Checks.due("victim: the miss", x.access(2, 8), 0);
        Checks.due("victim: line(0, 5)", x.line(0, 5), 2 * 256 + 8);
        Checks.due("victim: count(1, 3)", x.count(1, 3), 1);
    }

    private static void queriesChangeNothing() {
        CountedCache x = new CountedCache();
        x.stream(0, 0, 2, 30);
        String before = Checks.looksOf(x);
        x.ifAccessed(0, 0);
        x.ifAccessed(0, 58);
        x.victim(0, 0);
        x.victim(1, 4);
        Checks.due("queries change nothing:", Checks.looksOf(x), before);
    }
}
