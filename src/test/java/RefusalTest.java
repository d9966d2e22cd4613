/**
 * Section 8: "If several exceptions apply to a call, the one that is named first in the throws clause of the
 * method is thrown." And the calls that are refused because of the state. That each changes nothing is looked at
 * by Refusals; RangeTest has the arguments that are wrong one by one.
 */
final class RefusalTest {
    private static final String BOUNDS = Refusals.OUT_OF_BOUNDS;
    private static final String ARGUMENT = Refusals.BAD_ARGUMENT;
    private static final String STATE = Refusals.BAD_STATE;

    public static void main(String[] args) {
        tenantBeforeAddress();
        tenantBeforeTheStreamsNumbers();
        streamWithSeveralWrongNumbers();
        streamIsRefusedWhole();
        tenantBeforeLeast();
        tenantBeforeWays();
        tenantBeforeWhat();
        severalWrongIndexes();
        characterBeforeFullText();
        slotBeforeEmptySlot();
        fullText();
        notValidText();
        noSavedState();
        emptySlot();
        refusedCallKeepsTheOldestSavedState();
        afterARefusedCall();
        Checks.end("RefusalTest");
    }

    private static void tenantBeforeAddress() {
        for (int tenant : new int[] {-1, 4}) {
            for (int address : new int[] {-1, 256}) {
                String with = "(" + tenant + ", " + address + ")";
                Refusals.refused("access" + with, BOUNDS, x -> x.access(tenant, address));
                Refusals.refused("ifAccessed" + with, BOUNDS, x -> x.ifAccessed(tenant, address));
                Refusals.refused("victim" + with, BOUNDS, x -> x.victim(tenant, address));
            }
        }
    }

    private static void tenantBeforeTheStreamsNumbers() {
        Refusals.refused("stream(4, 256, 1, 1)", BOUNDS, x -> x.stream(4, 256, 1, 1));
        Refusals.refused("stream(4, 0, 0, 1)", BOUNDS, x -> x.stream(4, 0, 0, 1));
        Refusals.refused("stream(4, 0, 65, 1)", BOUNDS, x -> x.stream(4, 0, 65, 1));
        Refusals.refused("stream(4, 0, 1, 0)", BOUNDS, x -> x.stream(4, 0, 1, 0));
        Refusals.refused("stream(4, 0, 1, 41)", BOUNDS, x -> x.stream(4, 0, 1, 41));
        Refusals.refused("stream(-1, -1, 0, 0)", BOUNDS, x -> x.stream(-1, -1, 0, 0));
    }

    private static void streamWithSeveralWrongNumbers() {
        Refusals.refused("stream(0, 256, 0, 41)", ARGUMENT, x -> x.stream(0, 256, 0, 41));
        Refusals.refused("stream(0, 0, 65, 0)", ARGUMENT, x -> x.stream(0, 0, 65, 0));
        Refusals.refused("stream(0, -1, 1, 41)", ARGUMENT, x -> x.stream(0, -1, 1, 41));
    }

    /** No access is made of a stream that would be right up to its count, or up to its first address. */
    private static void streamIsRefusedWhole() {
        Refusals.refused("stream(3, 255, 64, 41)", ARGUMENT, x -> x.stream(3, 255, 64, 41));
        Refusals.refused("stream(3, 256, 64, 40)", ARGUMENT, x -> x.stream(3, 256, 64, 40));
        Refusals.refused("stream(3, 255, 65, 40)", ARGUMENT, x -> x.stream(3, 255, 65, 40));
    }

    private static void tenantBeforeLeast() {
        for (int least : new int[] {-1, 3}) {
            Refusals.refused("setLeast(-1, " + least + ")", BOUNDS, x -> x.setLeast(-1, least));
            Refusals.refused("setLeast(4, " + least + ")", BOUNDS, x -> x.setLeast(4, least));
        }
    }

    private static void tenantBeforeWays() {
        for (int ways : new int[] {-1, 9}) {
            Refusals.refused("utility(-1, " + ways + ")", BOUNDS, x -> x.utility(-1, ways));
            Refusals.refused("utility(4, " + ways + ")", BOUNDS, x -> x.utility(4, ways));
        }
    }

    private static void tenantBeforeWhat() {
        for (int what : new int[] {-1, 4}) {
            Refusals.refused("count(-1, " + what + ")", BOUNDS, x -> x.count(-1, what));
            Refusals.refused("count(4, " + what + ")", BOUNDS, x -> x.count(4, what));
        }
    }

    private static void severalWrongIndexes() {
        Refusals.refused("giveWay(8, 4)", BOUNDS, x -> x.giveWay(8, 4));
        Refusals.refused("giveWay(-1, -1)", BOUNDS, x -> x.giveWay(-1, -1));
        Refusals.refused("line(4, 8)", BOUNDS, x -> x.line(4, 8));
        Refusals.refused("line(-1, -1)", BOUNDS, x -> x.line(-1, -1));
        // 4 and -8 would make up a place, if set and way were put together before they are looked at
        Refusals.refused("line(4, -8)", BOUNDS, x -> x.line(4, -8));
        Refusals.refused("line(-1, 8)", BOUNDS, x -> x.line(-1, 8));
        Refusals.refused("gain(4, 8)", BOUNDS, x -> x.gain(4, 8));
        Refusals.refused("gain(-1, 8)", BOUNDS, x -> x.gain(-1, 8));
        Refusals.refused("monitored(4, 1, 8)", BOUNDS, x -> x.monitored(4, 1, 8));
        Refusals.refused("monitored(-1, 3, -1)", BOUNDS, x -> x.monitored(-1, 3, -1));
        Refusals.refused("monitored(0, 1, 8)", BOUNDS, x -> x.monitored(0, 1, 8));
    }

    private static CountedCache withText(String text) {
        CountedCache x = Refusals.busy();
        Checks.setText(x, text);
        return x;
    }

    private static void characterBeforeFullText() {
        String full = "0:255;".repeat(13) + "f2";
        for (int character : new int[] {-1, 31, 127}) {
            Refusals.refused(() -> withText(full), "appendText(" + character + ") to a full text", ARGUMENT,
                    x -> x.appendText(character));
        }
    }

    private static void slotBeforeEmptySlot() {
        // all slots of a new object are empty
        Refusals.refused(CountedCache::new, "restore(2) when all slots are empty", BOUNDS, x -> x.restore(2));
        Refusals.refused(CountedCache::new, "restore(-1) when all slots are empty", BOUNDS, x -> x.restore(-1));
    }

    /** "Throws IllegalStateException if the text has 80 characters": for each character that it would take. */
    private static void fullText() {
        String full = "0:255;".repeat(13) + "f2";
        for (int character : new int[] {32, ';', 'm', '0', 126}) {
            Refusals.refused(() -> withText(full), "appendText(" + character + ") to a full text", STATE,
                    x -> x.appendText(character));
        }
    }

    /** "Throws IllegalStateException if the text is not valid": no command before the wrong one is executed. */
    private static void notValidText() {
        String[] texts = {"", "0", "0:", "0:0;", "f", "m;", ";m", "m;;m", "0:0;0:0;0:256", "0:0;f4", "h;m;x", "4:0",
            "0:00", "0:0;1:255;2:3;f0;m;h;", "0:0 ", "0:255;".repeat(13) + "f4", "m;".repeat(40)};
        for (String text : texts) {
            Refusals.refused(() -> withText(text), "runText() of \"" + text + "\"", STATE, CountedCache::runText);
        }
        Refusals.refused(CountedCache::new, "runText() of a new object", STATE, CountedCache::runText);
    }

    private static CountedCache allUndone() {
        CountedCache x = Refusals.busy();
        for (int i = 0; i < 6; i++) {
            x.undo();
        }
        return x;
    }

    private static CountedCache slotAndTextFilled() {
        CountedCache x = new CountedCache();
        x.save(0);
        Checks.append(x, "m;0:0");
        return x;
    }

    /** "Throws IllegalStateException if there is no saved state": a slot is none. */
    private static void noSavedState() {
        Refusals.refused(CountedCache::new, "undo() of a new object", STATE, CountedCache::undo);
        Refusals.refused(RefusalTest::slotAndTextFilled, "undo() when a slot is filled", STATE, CountedCache::undo);
        Refusals.refused(RefusalTest::allUndone, "undo() when all six are undone", STATE, CountedCache::undo);
    }

    private static CountedCache slotZeroFilled() {
        CountedCache x = new CountedCache();
        x.access(2, 7);
        x.save(0);
        x.access(2, 11);
        return x;
    }

    /** "Throws IllegalStateException if the slot is empty": the other one may be filled. */
    private static void emptySlot() {
        Refusals.refused(CountedCache::new, "restore(0) of a new object", STATE, x -> x.restore(0));
        Refusals.refused(CountedCache::new, "restore(1) of a new object", STATE, x -> x.restore(1));
        Refusals.refused(Refusals::busy, "restore(0) when slot 1 is filled", STATE, x -> x.restore(0));
        Refusals.refused(RefusalTest::slotZeroFilled, "restore(1) when slot 0 is filled", STATE, x -> x.restore(1));
    }

    /** "saves the state as it was before the call, unless the call throws an exception": six stay the same six. */
    private static void refusedCallKeepsTheOldestSavedState() {
        CountedCache x = new CountedCache();
        for (int i = 0; i < 6; i++) {
            x.access(0, i);
        }
        Checks.outcome(() -> x.access(4, 0));
        Checks.outcome(() -> x.access(0, 256));
        Checks.outcome(() -> x.stream(0, 0, 0, 1));
        Checks.outcome(() -> x.flush(4));
        Checks.outcome(() -> x.giveWay(8, 0));
        Checks.outcome(() -> x.setLeast(0, 3));
        Checks.outcome(() -> x.setEpoch(201));
        Checks.outcome(() -> x.runText());
        Checks.outcome(() -> x.restore(0));
        for (int i = 5; i >= 0; i--) {
            Checks.due("oldest: undo()", x.undo(), i);
            Checks.due("oldest: accesses()", x.accesses(), i);
        }
    }

    private static void afterARefusedCall() {
        CountedCache x = new CountedCache();
        x.access(0, 0);
        Checks.outcome(() -> x.access(0, 256));
        Checks.outcome(() -> x.access(4, 0));
        Checks.due("after a refused call: access(0, 0)", x.access(0, 0), 1);
        Checks.due("after a refused call: accesses()", x.accesses(), 2);
        Checks.due("after a refused call: savedStates()", x.savedStates(), 2);
    }
}
