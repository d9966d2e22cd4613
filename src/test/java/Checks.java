import java.util.Objects;

/** What the tests share: counting wrong answers, and the looks of an object from outside. */
final class Checks {
    /** A call whose answer, or whose exception, is looked at. */
    interface Call {
        Object answer();
    }

    private static int wrong = 0;

    private Checks() {
    }

    static void due(String what, Object got, Object want) {
        if (!Objects.equals(got, want)) {
            wrong++;
            System.out.println(what + " answered " + got + ", due is " + want);
        }
    }

    /** The call's answer, or the exact name of the exception behind "throws.". */
    static Object outcome(Call call) {
        try {
            return call.answer();
        } catch (RuntimeException e) {
            return "throws." + e.getClass().getSimpleName();
        }
    }

    /** The call throws just this exception, and nothing that can be seen has changed. */
    static void refused(PartitionedCache cache, String what, String exception, Call call) {
        String before = looksOf(cache);
        due(what, outcome(call), "throws." + exception);
        due(what + " changed what the queries answer:", looksOf(cache), before);
    }

    static void outOfBounds(PartitionedCache cache, String what, Call call) {
        refused(cache, what, "IndexOutOfBoundsException", call);
    }

    static void badArgument(PartitionedCache cache, String what, Call call) {
        refused(cache, what, "IllegalArgumentException", call);
    }

    static void badState(PartitionedCache cache, String what, Call call) {
        refused(cache, what, "IllegalStateException", call);
    }

    /** The answers of all queries without wrong arguments but ifAccessed and victim. */
    static String looksOf(PartitionedCache cache) {
        StringBuilder looks = new StringBuilder();
        for (int way = 0; way < 8; way++) {
            looks.append(cache.owner(way)).append(' ');
            for (int set = 0; set < 4; set++) {
                looks.append(cache.line(set, way)).append(' ');
            }
        }
        for (int tenant = 0; tenant < 4; tenant++) {
            looks.append('\n');
            looksOfTenant(cache, tenant, looks);
        }
        looks.append('\n').append(cache.movesLeft()).append(' ').append(cache.totalUtility());
        looks.append(' ').append(cache.accesses()).append(' ').append(cache.savedStates());
        looks.append(' ').append(cache.textLength()).append(' ').append(cache.errorPosition());
        return looks.toString();
    }

    private static void looksOfTenant(PartitionedCache cache, int tenant, StringBuilder looks) {
        looks.append(cache.waysOf(tenant)).append(' ').append(cache.target(tenant)).append(' ');
        looks.append(cache.lines(tenant, false)).append(' ').append(cache.lines(tenant, true)).append(" gains");
        for (int position = 0; position < 8; position++) {
            looks.append(' ').append(cache.gain(tenant, position));
            looks.append(' ').append(cache.monitored(tenant, 0, position));
            looks.append(' ').append(cache.monitored(tenant, 2, position));
        }
        looks.append(" utilities");
        for (int ways = 0; ways <= 8; ways++) {
            looks.append(' ').append(cache.utility(tenant, ways));
        }
        looks.append(" counts");
        for (int what = 0; what <= 3; what++) {
            looks.append(' ').append(cache.count(tenant, what));
        }
        looks.append(' ').append(cache.hitRate(tenant));
    }

    static void append(PartitionedCache cache, String text) {
        for (char sign : text.toCharArray()) {
            cache.appendText(sign);
        }
    }

    static void setText(PartitionedCache cache, String text) {
        cache.clearText();
        append(cache, text);
    }

    static void end(String test) {
        System.out.println(test + ": " + (wrong == 0 ? "all answers are as due" : wrong + " answers are not as due"));
        if (wrong != 0) {
            System.exit(1);
        }
    }
}
