import java.util.Objects;

/** What the tests share: counting wrong answers, and the looks of an object from outside. */
final class Checks {
    /** A call whose answer, or whose exception, is looked at. */
    interface Call {
        Object answer();
    }

    private static int wrong = 0;

    private Checks() {
    }

    static void due(String what, Object got, Object want) {
        if (!Objects.equals(got, want)) {
            wrong++;
            System.out.println(what + " answered " + got + ", due is " + want);
        }
    }

    /** The call's answer, or the exact name of the exception behind "throws.". */
    static Object outcome(Call call) {
        try {
            return call.answer();
        } catch (RuntimeException e) {
            return "throws." + e.getClass().getSimpleName();
        }
    }

    /** The answers of all queries without wrong arguments but ifAccessed and victim. */
    static String looksOf(CountedCache x) {
        StringBuilder looks = new StringBuilder();
        for (int way = 0; way < 8; way++) {
            looks.append(x.owner(way)).append(' ');
            for (int set = 0; set < 4; set++) {
                looks.append(x.line(set, way)).append(' ');
            }
        }
        for (int tenant = 0; tenant < 4; tenant++) {
            looks.append('\n');
            looksOfTenant(x, tenant, looks);
        }
        looks.append('\n').append(x.movesLeft()).append(' ').append(x.totalUtility());
        looks.append(' ').append(x.accesses()).append(' ').append(x.savedStates());
        looks.append(' ').append(x.textLength()).append(' ').append(x.errorPosition());
        return looks.toString();
    }

    private static void looksOfTenant(CountedCache x, int tenant, StringBuilder looks) {
        looks.append(x.waysOf(tenant)).append(' ').append(x.target(tenant)).append(' ');
        looks.append(x.lines(tenant, false)).append(' ').append(x.lines(tenant, true)).append(" gains");
        for (int position = 0; position < 8; position++) {
            looks.append(' ').append(x.gain(tenant, position));
            looks.append(' ').append(x.monitored(tenant, 0, position));
            looks.append(' ').append(x.monitored(tenant, 2, position));
        }
        looks.append(" utilities");
        for (int ways = 0; ways <= 8; ways++) {
            looks.append(' ').append(x.utility(tenant, ways));
        }
        looks.append(" counts");
        for (int what = 0; what <= 3; what++) {
            looks.append(' ').append(x.count(tenant, what));
        }
        looks.append(' ').append(x.hitRate(tenant));
    }

    /** Fewer calls than looksOf: owners, lines, and a few numbers of each tenant. */
    static String shortLooksOf(CountedCache x) {
        StringBuilder looks = new StringBuilder();
        for (int way = 0; way < 8; way++) {
            looks.append(x.owner(way)).append(' ');
            for (int set = 0; set < 4; set++) {
                looks.append(x.line(set, way)).append(' ');
            }
        }
        for (int tenant = 0; tenant < 4; tenant++) {
            looks.append(x.utility(tenant, 8)).append(' ').append(x.target(tenant)).append(' ');
            looks.append(x.count(tenant, 1)).append(' ');
        }
        return looks.append(x.accesses()).toString();
    }

    /** The owners of the ways 0 to 7, one digit each. */
    static String ownersOf(CountedCache x) {
        StringBuilder owners = new StringBuilder();
        for (int way = 0; way < 8; way++) {
            owners.append(x.owner(way));
        }
        return owners.toString();
    }

    /** The targets of the tenants 0 to 3, one digit each. */
    static String targetsOf(CountedCache x) {
        StringBuilder targets = new StringBuilder();
        for (int tenant = 0; tenant < 4; tenant++) {
            targets.append(x.target(tenant));
        }
        return targets.toString();
    }

    /** The lines of a set, from way 0 to way 7. */
    static String linesOfSet(CountedCache x, int set) {
        StringBuilder lines = new StringBuilder();
        for (int way = 0; way < 8; way++) {
            lines.append(way == 0 ? "" : " ").append(x.line(set, way));
        }
        return lines.toString();
    }

    /** A monitor's list with all its eight positions. */
    static String listOf(CountedCache x, int tenant, int set) {
        StringBuilder list = new StringBuilder();
        for (int position = 0; position < 8; position++) {
            list.append(position == 0 ? "" : " ").append(x.monitored(tenant, set, position));
        }
        return list.toString();
    }

    /** The gains of a tenant from position 0 to position 7. */
    static String gainsOf(CountedCache x, int tenant) {
        StringBuilder gains = new StringBuilder();
        for (int position = 0; position < 8; position++) {
            gains.append(position == 0 ? "" : " ").append(x.gain(tenant, position));
        }
        return gains.toString();
    }

    /**
     * Adds times to one gain of the tenant, and to no other: goes round position + 1 addresses that are the
     * position's own. For one tenant and position it is called once an object.
     */
    static void giveGain(CountedCache x, int tenant, int position, int times) {
        int length = position + 1;
        x.stream(tenant, 32 * position, 4, length);
        for (int i = 0; i < times; i++) {
            x.access(tenant, 32 * position + i % length * 4);
        }
    }

    static void giveWays(CountedCache x, String owners) {
        for (int way = 0; way < 8; way++) {
            x.giveWay(way, owners.charAt(way) - '0');
        }
    }

    static void setLeasts(CountedCache x, String leasts) {
        for (int tenant = 0; tenant < 4; tenant++) {
            x.setLeast(tenant, leasts.charAt(tenant) - '0');
        }
    }

    static void append(CountedCache x, String text) {
        for (char sign : text.toCharArray()) {
            x.appendText(sign);
        }
    }

    static void setText(CountedCache x, String text) {
        x.clearText();
        append(x, text);
    }

    static void end(String test) {
        System.out.println(test + ": " + (wrong == 0 ? "all answers are as due" : wrong + " answers are not as due"));
        if (wrong != 0) {
            System.exit(1);
        }
    }
}
