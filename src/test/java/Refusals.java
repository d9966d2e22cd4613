/**
 * Calls that throw: "A call that throws an exception changes nothing." What no query tells (the text's
 * characters, the saved states, the slots, the stamps, the least numbers, the epoch length) is looked at by
 * further calls, so each look has two objects of its own: one that was refused something, and one that was not.
 */
final class Refusals {
    /** Makes an object that is ready for the call. */
    interface Setup {
        CountedCache make();
    }

    /** A call on an object, or a look at it; its answer. */
    interface Use {
        Object of(CountedCache x);
    }

    static final String OUT_OF_BOUNDS = "throws.IndexOutOfBoundsException";
    static final String BAD_ARGUMENT = "throws.IllegalArgumentException";
    static final String BAD_STATE = "throws.IllegalStateException";

    private static final Use[] LOOKS = {Checks::looksOf, Refusals::stampsLeastsAndEpoch, Refusals::savedStates,
        Refusals::slots, Refusals::text};

    private Refusals() {
    }

    /** The call throws just this exception, and changes nothing. */
    static void refused(Setup setup, String what, String exception, Use call) {
        for (int i = 0; i < LOOKS.length; i++) {
            CountedCache x = setup.make();
            Checks.due(what, Checks.outcome(() -> call.of(x)), exception);
            Checks.due(what + " changed something, look " + i + ":", LOOKS[i].of(x), LOOKS[i].of(setup.make()));
        }
    }

    /** As above, on a new object and on one where nothing is as at first. */
    static void refused(String what, String exception, Use call) {
        refused(CountedCache::new, what + " of a new object", exception, call);
        refused(Refusals::busy, what + " of a busy object", exception, call);
    }

    /** Six states are saved, slot 1 is filled, the text is valid, ways have moved and foreign lines stand. */
    static CountedCache busy() {
        CountedCache x = new CountedCache();
        x.setEpoch(90);
        x.setLeast(1, 2);
        x.setLeast(3, 0);
        x.stream(0, 0, 2, 30);
        x.save(1);
        x.stream(1, 1, 3, 20);
        x.giveWay(2, 0);
        x.stream(3, 0, 4, 12);
        x.stream(3, 16, 4, 8);
        x.stream(2, 6, 4, 3);
        Checks.append(x, "0:0;f1;m;3:25;h");
        return x;
    }

    static Object stampsLeastsAndEpoch(CountedCache x) {
        StringBuilder looks = new StringBuilder();
        for (int tenant = 0; tenant < 4; tenant++) {
            for (int set = 0; set < 4; set++) {
                looks.append(x.victim(tenant, 252 + set)).append(' ');
            }
        }
        for (int tenant = 0; tenant < 4; tenant++) {
            looks.append(x.setLeast(tenant, 1)).append(' ');
        }
        return looks.append(x.setEpoch(0)).toString();
    }

    private static Object savedStates(CountedCache x) {
        StringBuilder looks = new StringBuilder();
        for (int i = 0; i < 7; i++) {
            looks.append(Checks.outcome(x::undo)).append(": ").append(Checks.shortLooksOf(x)).append('\n');
        }
        return looks.toString();
    }

    private static Object slots(CountedCache x) {
        StringBuilder looks = new StringBuilder();
        for (int i = 0; i < 2; i++) {
            int slot = i;
            looks.append(Checks.outcome(() -> x.restore(slot))).append(": ");
            looks.append(Checks.shortLooksOf(x)).append('\n');
        }
        return looks.toString();
    }

    private static Object text(CountedCache x) {
        StringBuilder looks = new StringBuilder();
        looks.append(x.textLength()).append(' ').append(x.errorPosition()).append(' ');
        looks.append(Checks.outcome(x::runText)).append(": ").append(Checks.shortLooksOf(x));
        return looks.append(x.clearText()).toString();
    }
}
