/**
 * Section 7, and promises 14 to 16 and 32, at their boundaries:
 * a sentence stands above the first test that holds to it.
 */
final class StateBoundsTest {
    public static void main(String[] args) {
        firstSavedStatesAndSlots();
        eachUndoableCallSavesOneState();
        callsThatChangeNothingSaveAState();
        otherCallsSaveNoState();
        queriesSaveNoStateAndChangeNothing();
        streamAndTextAreOneCall();
        undoOfOneSavedState();
        sixthSavedState();
        seventhSavedState();
        seventhSavedStateOfEachCall();
        manySavedStates();
        undoAndSaveByTurns();
        undoIsNotUndoable();
        savedStatesStayWhatTheyWere();
        undoBringsBackEachPart();
        restoreBringsBackEachPart();
        eachOwnerComesBack();
        eachPlaceComesBack();
        eachListComesBack();
        eachGainComesBack();
        eachLeastNumberComesBack();
        eachCountComesBack();

        saveOfANewObject();
        saveReplacesWhatTheSlotHeld();
        slotKeepsItsCopy();
        slotIsACopy();
        slotsAreApart();
        sameStateInBothSlots();
        restoreOfTheSameState();
        restoreIsUndone();
        restoreWithSixSavedStates();
        undoLeavesTheSlots();
        restoreLeavesTheSavedStates();
        restoreAndUndoLeaveTheText();
        Checks.end("StateBoundsTest");
    }

    /** All calls of the document that are marked "Undoable"; the object has the text "0:0" and a filled slot 0. */
    private static final Refusals.Use[] UNDOABLE = {
        x -> x.access(1, 4), x -> x.stream(2, 0, 1, 40), x -> x.flush(0), CountedCache::moveWay, x -> x.giveWay(0, 3),
        x -> x.setLeast(1, 2), x -> x.setEpoch(3), CountedCache::halveGains, CountedCache::runText, x -> x.restore(0),
    };

    private static CountedCache ready() {
        CountedCache x = new CountedCache();
        x.setEpoch(90);
        x.stream(0, 0, 2, 20);
        x.stream(0, 0, 2, 16);
        x.giveWay(2, 0);
        x.save(0);
        Checks.append(x, "0:0");
        return x;
    }

    // ---- saved states

    /** "There are two slots, 0 and 1, which are empty at first." */
    private static void firstSavedStatesAndSlots() {
        CountedCache x = new CountedCache();
        Checks.due("first: savedStates()", x.savedStates(), 0);
        Checks.due("first: undo()", Checks.outcome(x::undo), Refusals.BAD_STATE);
        Checks.due("first: restore(0)", Checks.outcome(() -> x.restore(0)), Refusals.BAD_STATE);
        Checks.due("first: restore(1)", Checks.outcome(() -> x.restore(1)), Refusals.BAD_STATE);
    }

    /** "A method that is marked "Undoable" saves the state as it was before the call" */
    private static void eachUndoableCallSavesOneState() {
        for (int i = 0; i < UNDOABLE.length; i++) {
            CountedCache x = ready();
            String before = Checks.looksOf(x);
            int states = x.savedStates();
            UNDOABLE[i].of(x);
            Checks.due("undoable " + i + ": savedStates()", x.savedStates(), states + 1);
            Checks.due("undoable " + i + ": undo()", x.undo(), states);
            Checks.due("undoable " + i + ": all is as before:", Checks.looksOf(x), before);
            Checks.due("undoable " + i + ": the epoch length", x.setEpoch(0), 90);
            Checks.due("undoable " + i + ": the least number", x.setLeast(1, 0), 1);
        }
    }

    /** "(It is saved even if the call changes nothing.)" */
    private static void callsThatChangeNothingSaveAState() {
        Refusals.Use[] calls = {x -> x.flush(0), CountedCache::moveWay, x -> x.giveWay(0, 0), x -> x.setLeast(1, 1),
            x -> x.setEpoch(0), CountedCache::halveGains, CountedCache::runText, x -> x.restore(0)};
        for (int i = 0; i < calls.length; i++) {
            CountedCache x = new CountedCache();
            x.save(0);
            Checks.append(x, "m;f3;h");
            String owners = Checks.ownersOf(x);
            calls[i].of(x);
            Checks.due("changes nothing " + i + ": owners", Checks.ownersOf(x), owners);
            Checks.due("changes nothing " + i + ": savedStates()", x.savedStates(), 1);
            calls[i].of(x);
            Checks.due("changes nothing " + i + ": savedStates() after two", x.savedStates(), 2);
            Checks.due("changes nothing " + i + ": undo()", x.undo(), 1);
        }
    }

    /** Only the methods that are marked save: not the texts, not save, not undo. */
    private static void otherCallsSaveNoState() {
        CountedCache x = ready();
        int states = x.savedStates();
        x.appendText(';');
        x.errorPosition();
        x.clearText();
        x.save(0);
        x.save(1);
        Checks.due("not undoable: savedStates()", x.savedStates(), states);
        Checks.due("not undoable: undo()", x.undo(), states - 1);
        Checks.due("not undoable: it is giveWay that is undone", x.owner(2), 2);
    }

    /** "queries change nothing" */
    private static void queriesSaveNoStateAndChangeNothing() {
        CountedCache x = ready();
        String before = Checks.looksOf(x);
        for (int tenant = 0; tenant < 4; tenant++) {
            x.ifAccessed(tenant, 0);
            x.ifAccessed(tenant, 255);
            x.victim(tenant, 0);
            x.victim(tenant, 255);
        }
        Checks.due("queries change nothing:", Checks.looksOf(x), before);
        Checks.due("queries: the epoch length", x.setEpoch(1), 90);
    }

    /** "Undoable, as one call." */
    private static void streamAndTextAreOneCall() {
        CountedCache x = new CountedCache();
        Checks.append(x, "0:0;1:1;f0;m;h;2:2");
        x.stream(3, 0, 1, 40);
        Checks.due("one call: savedStates() after a stream", x.savedStates(), 1);
        x.runText();
        Checks.due("one call: savedStates() after a text", x.savedStates(), 2);
        x.undo();
        Checks.due("one call: accesses() with the text undone", x.accesses(), 40);
        x.undo();
        Checks.due("one call: accesses() with the stream undone", x.accesses(), 0);
        Checks.due("one call: save(0) with the stream undone", x.save(0), 0);
    }

    /** "Restores the state that was saved last, and removes it from the saved states." */
    private static void undoOfOneSavedState() {
        CountedCache x = new CountedCache();
        x.access(0, 0);
        Checks.due("one: undo()", x.undo(), 0);
        Checks.due("one: savedStates()", x.savedStates(), 0);
        Checks.due("one: line(0, 0)", x.line(0, 0), -1);
        Checks.due("one: undo() again", Checks.outcome(x::undo), Refusals.BAD_STATE);
    }

    private static CountedCache afterAccesses(int accesses) {
        CountedCache x = new CountedCache();
        for (int i = 0; i < accesses; i++) {
            x.access(0, i);
        }
        return x;
    }

    /** Undoes all, and looks whether the saved states are those before the accesses of these counts. */
    private static void undone(String of, CountedCache x, int... counts) {
        Checks.due(of + ": savedStates()", x.savedStates(), counts.length);
        for (int i = counts.length - 1; i >= 0; i--) {
            Checks.due(of + ": undo()", x.undo(), i);
            Checks.due(of + ": accesses()", x.accesses(), counts[i]);
            Checks.due(of + ": the line of the undone access", x.ifAccessed(0, counts[i]), 0);
        }
        Checks.due(of + ": undo() of none", Checks.outcome(x::undo), Refusals.BAD_STATE);
        Checks.due(of + ": savedStates() at last", x.savedStates(), 0);
    }

    /** "At most 6 states are saved" */
    private static void sixthSavedState() {
        undone("five", afterAccesses(5), 0, 1, 2, 3, 4);
        undone("six", afterAccesses(6), 0, 1, 2, 3, 4, 5);
    }

    /** "when a seventh state is saved, the oldest saved state is discarded" */
    private static void seventhSavedState() {
        undone("seven", afterAccesses(7), 1, 2, 3, 4, 5, 6);
        undone("eight", afterAccesses(8), 2, 3, 4, 5, 6, 7);
    }

    private static void seventhSavedStateOfEachCall() {
        for (int i = 0; i < UNDOABLE.length; i++) {
            // saved so far: before setEpoch, the two streams, giveWay and two accesses
            CountedCache x = ready();
            x.access(0, 0);
            x.access(0, 0);
            Checks.due("six before " + i + ": savedStates()", x.savedStates(), 6);
            UNDOABLE[i].of(x);
            Checks.due("seventh by " + i + ": savedStates()", x.savedStates(), 6);
            for (int states = 5; states >= 0; states--) {
                Checks.due("seventh by " + i + ": undo()", x.undo(), states);
            }
            Checks.due("seventh by " + i + ": undo() of none", Checks.outcome(x::undo), Refusals.BAD_STATE);
            Checks.due("seventh by " + i + ": accesses()", x.accesses(), 0);
            Checks.due("seventh by " + i + ": setEpoch is not undone", x.setEpoch(0), 90);
        }
    }

    private static void manySavedStates() {
        for (int accesses = 9; accesses <= 26; accesses++) {
            undone(accesses + " accesses", afterAccesses(accesses), accesses - 6, accesses - 5, accesses - 4,
                    accesses - 3, accesses - 2, accesses - 1);
        }
    }

    private static void undoAndSaveByTurns() {
        CountedCache x = afterAccesses(8);
        x.undo();
        x.undo();
        x.access(0, 6);
        x.access(0, 7);
        x.access(0, 8);
        undone("two undone, three made", x, 3, 4, 5, 6, 7, 8);
        x.access(0, 3);
        x.access(0, 4);
        undone("after all was undone", x, 3, 4);
        CountedCache y = afterAccesses(3);
        y.undo();
        y.access(0, 2);
        y.undo();
        y.undo();
        y.access(0, 1);
        undone("undone thrice among four", y, 0, 1);
    }

    /** There is no redo: what is undone is not saved. */
    private static void undoIsNotUndoable() {
        CountedCache x = afterAccesses(4);
        x.undo();
        Checks.due("no redo: undo()", x.undo(), 2);
        Checks.due("no redo: accesses()", x.accesses(), 2);
    }

    /** What happens after an undo does not reach the states that are still saved. */
    private static void savedStatesStayWhatTheyWere() {
        CountedCache x = new CountedCache();
        x.stream(0, 0, 4, 3);
        x.stream(1, 0, 2, 9);
        String second = Checks.shortLooksOf(x);
        x.giveWay(0, 1);
        x.undo();
        x.flush(0);
        x.stream(1, 0, 2, 9);
        x.setLeast(1, 2);
        x.undo();
        x.undo();
        x.undo();
        Checks.due("saved states: the second:", Checks.shortLooksOf(x), second);
        x.undo();
        Checks.due("saved states: the first: set 0", Checks.linesOfSet(x, 0), "8 -1 -1 -1 4 -1 -1 -1");
        Checks.due("saved states: the first: accesses()", x.accesses(), 3);
    }

    /** "The state consists of everything in sections 1 to 5, the epoch length (0 at first) and all counts." */
    private static void changeAll(CountedCache x) {
        x.giveWay(0, 3);
        x.setLeast(2, 0);
        x.setEpoch(7);
        x.access(1, 8);
        x.stream(1, 2, 4, 2);
    }

    private static CountedCache allParts() {
        CountedCache x = new CountedCache();
        x.setEpoch(70);
        x.setLeast(2, 2);
        x.giveWay(6, 1);
        x.stream(1, 0, 4, 3);
        x.access(1, 4);
        x.stream(1, 2, 4, 2);
        x.giveWay(0, 2);
        x.giveWay(4, 2);
        x.access(0, 1);
        return x;
    }

    /** Each part of the state, by a query or a call that tells it, on an object as allParts makes it. */
    private static void lookAtAllParts(String of, CountedCache x) {
        Checks.due(of + ": the owners", Checks.ownersOf(x), "21232113");
        Checks.due(of + ": the lines of set 0", Checks.linesOfSet(x, 0), "-1 256 -1 -1 -1 260 264 -1");
        Checks.due(of + ": the lines of set 2", Checks.linesOfSet(x, 2), "-1 258 -1 -1 -1 262 -1 -1");
        Checks.due(of + ": the stamps", x.victim(1, 12), 256);
        Checks.due(of + ": the list of set 0", Checks.listOf(x, 1, 0), "4 8 0 -1 -1 -1 -1 -1");
        Checks.due(of + ": the list of set 2", Checks.listOf(x, 1, 2), "6 2 -1 -1 -1 -1 -1 -1");
        Checks.due(of + ": the gains", Checks.gainsOf(x, 1), "0 1 0 0 0 0 0 0");
        Checks.due(of + ": the access count", x.accesses(), 7);
        Checks.due(of + ": the misses", x.count(1, 0), 5);
        Checks.due(of + ": the hits", x.count(1, 1), 1);
        Checks.due(of + ": the bypasses", x.count(0, 2), 1);
        Checks.due(of + ": the evictions", x.count(1, 3), 0);
        // the next stamps: 8 at the access of 0, so that 264 has the least one of set 0
        x.access(1, 0);
        Checks.due(of + ": the stamps in their order", x.victim(1, 12), 264);
        Checks.due(of + ": the least number", x.setLeast(2, 1), 2);
        Checks.due(of + ": the epoch length", x.setEpoch(1), 70);
    }

    /** All parts at once, each changed by changeAll. */
    private static void undoBringsBackEachPart() {
        lookAtAllParts("as made", allParts());
        CountedCache x = allParts();
        changeAll(x);
        for (int i = 0; i < 5; i++) {
            x.undo();
        }
        lookAtAllParts("undone", x);
    }

    private static void restoreBringsBackEachPart() {
        for (int slot = 0; slot < 2; slot++) {
            CountedCache x = allParts();
            x.save(slot);
            changeAll(x);
            changeAll(x);
            x.restore(slot);
            lookAtAllParts("restored from " + slot, x);
        }
    }

    /** Makes the change on the object and takes it back, once by undo and once by restore; then looks at it. */
    private static void comesBack(String of, Refusals.Setup setup, Refusals.Use change,
            Refusals.Use look) {
        Object due = look.of(setup.make());
        CountedCache x = setup.make();
        change.of(x);
        Checks.due(of + " is changed", !look.of(x).equals(due), true);
        CountedCache y = setup.make();
        change.of(y);
        y.undo();
        Checks.due(of + " after undo", look.of(y), due);
        CountedCache z = setup.make();
        z.save(1);
        change.of(z);
        z.restore(1);
        Checks.due(of + " after restore", look.of(z), due);
    }

    /** Each part by itself, in each of its places. */
    private static void eachOwnerComesBack() {
        for (int i = 0; i < 8; i++) {
            int way = i;
            comesBack("owner of way " + way, CountedCache::new, x -> x.giveWay(way, (way + 1) % 4),
                    x -> x.owner(way));
        }
    }

    /** A set that is full of one tenant's lines, of which the one in the way has the least stamp. */
    private static CountedCache oldestLine(int set, int way) {
        CountedCache x = new CountedCache();
        Checks.giveWays(x, "11111111");
        x.stream(1, set, 4, 8);
        for (int other = 0; other < 8; other++) {
            if (other != way) {
                x.access(1, set + 4 * other);
            }
        }
        return x;
    }

    private static void eachPlaceComesBack() {
        for (int i = 0; i < 32; i++) {
            int set = i / 8;
            int way = i % 8;
            String place = set + ", " + way;
            comesBack("line " + place, () -> oldestLine(set, way), x -> x.access(1, 252 + set), x -> x.line(set, way));
            comesBack("flushed line " + place, () -> oldestLine(set, way), x -> x.flush(1), x -> x.line(set, way));
            comesBack("stamp " + place, () -> oldestLine(set, way), x -> x.access(1, set + 4 * way),
                    x -> x.victim(1, 252 + set));
        }
    }

    private static CountedCache fullLists() {
        CountedCache x = new CountedCache();
        for (int tenant = 0; tenant < 4; tenant++) {
            x.stream(tenant, 32 * tenant, 2, 16);
        }
        return x;
    }

    private static void eachListComesBack() {
        for (int i = 0; i < 8; i++) {
            int tenant = i / 2;
            int set = i % 2 * 2;
            comesBack("list of " + tenant + ", " + set, StateBoundsTest::fullLists,
                    x -> x.stream(tenant, 160 + set, 4, 8), x -> Checks.listOf(x, tenant, set));
            comesBack("empty list of " + tenant + ", " + set, CountedCache::new,
                    x -> x.stream(tenant, 160 + set, 4, 8), x -> Checks.listOf(x, tenant, set));
        }
    }

    private static void eachGainComesBack() {
        for (int i = 0; i < 32; i++) {
            int tenant = i / 8;
            int position = i % 8;
            comesBack("gain of " + tenant + " at " + position, () -> {
                CountedCache x = new CountedCache();
                Checks.giveGain(x, tenant, position, 3);
                return x;
            }, CountedCache::halveGains, x -> x.gain(tenant, position));
        }
    }

    private static void eachLeastNumberComesBack() {
        for (int i = 0; i < 4; i++) {
            int tenant = i;
            comesBack("least number of " + tenant, CountedCache::new, x -> x.setLeast(tenant, 2),
                    x -> x.setLeast(tenant, 1));
        }
    }

    private static void eachCountComesBack() {
        for (int i = 0; i < 4; i++) {
            int tenant = i;
            Refusals.Setup full = () -> {
                CountedCache x = new CountedCache();
                x.stream(tenant, 0, 4, 2);
                return x;
            };
            comesBack("misses of " + tenant, full, x -> x.access(tenant, 8), x -> x.count(tenant, 0));
            comesBack("hits of " + tenant, full, x -> x.access(tenant, 4), x -> x.count(tenant, 1));
            comesBack("evictions of " + tenant, full, x -> x.access(tenant, 8), x -> x.count(tenant, 3));
            comesBack("access count", full, x -> x.access(tenant, 4), CountedCache::accesses);
            comesBack("bypasses of " + tenant, () -> {
                CountedCache x = new CountedCache();
                x.giveWay(tenant, (tenant + 1) % 4);
                x.giveWay(tenant + 4, (tenant + 1) % 4);
                return x;
            }, x -> x.access(tenant, 0), x -> x.count(tenant, 2));
        }
    }

    // ---- slots

    /** The first state may be saved too: the slot is not empty then. */
    private static void saveOfANewObject() {
        CountedCache x = new CountedCache();
        Checks.due("new: save(0)", x.save(0), 0);
        x.setEpoch(3);
        x.setLeast(0, 2);
        x.stream(0, 0, 1, 9);
        Checks.due("new: restore(0)", x.restore(0), 0);
        Checks.due("new: accesses()", x.accesses(), 0);
        Checks.due("new: the list", x.monitored(0, 0, 0), -1);
        Checks.due("new: the epoch length", x.setEpoch(0), 0);
        Checks.due("new: the least number", x.setLeast(0, 1), 1);
    }

    /** "Copies the state into a slot and replaces what the slot held." */
    private static void saveReplacesWhatTheSlotHeld() {
        CountedCache x = afterAccesses(2);
        x.save(1);
        x.access(0, 2);
        Checks.due("replaces: save(1)", x.save(1), 3);
        x.flush(0);
        Checks.due("replaces: restore(1)", x.restore(1), 3);
        x.flush(0);
        Checks.due("replaces: save(1) of the empty cache", x.save(1), 0);
        x.access(0, 9);
        Checks.due("replaces: restore(1) of the empty cache", x.restore(1), 0);
    }

    /** "the slot keeps its copy" */
    private static void slotKeepsItsCopy() {
        CountedCache x = afterAccesses(2);
        x.save(0);
        for (int i = 0; i < 3; i++) {
            x.stream(0, 2, 1, 6);
            x.giveWay(0, 3);
            Checks.due("keeps, " + i + ": restore(0)", x.restore(0), 2);
            Checks.due("keeps, " + i + ": accesses()", x.accesses(), 2);
            Checks.due("keeps, " + i + ": owners", Checks.ownersOf(x), "01230123");
        }
    }

    /** What is done after save, or after restore, does not reach the slot. */
    private static void slotIsACopy() {
        CountedCache x = afterAccesses(3);
        x.save(0);
        x.flush(0);
        Checks.due("copy: restore(0) after a flush", x.restore(0), 3);
        x.flush(0);
        Checks.due("copy: restore(0) after a second flush", x.restore(0), 3);
    }

    private static void slotsAreApart() {
        CountedCache x = afterAccesses(1);
        x.save(0);
        x.access(0, 1);
        x.save(1);
        Checks.due("apart: restore(0)", x.restore(0), 1);
        Checks.due("apart: restore(1)", x.restore(1), 2);
        x.save(0);
        Checks.due("apart: restore(0) of what was in 1", x.restore(0), 2);
    }

    private static void sameStateInBothSlots() {
        CountedCache x = afterAccesses(2);
        x.save(0);
        x.save(1);
        x.restore(0);
        x.flush(0);
        x.save(0);
        Checks.due("both: restore(1)", x.restore(1), 2);
        Checks.due("both: restore(0)", x.restore(0), 0);
    }

    private static void restoreOfTheSameState() {
        CountedCache x = afterAccesses(2);
        x.save(0);
        String before = Checks.shortLooksOf(x);
        Checks.due("the same: restore(0)", x.restore(0), 2);
        Checks.due("the same: all is as before:", Checks.shortLooksOf(x), before);
        Checks.due("the same: savedStates()", x.savedStates(), 3);
    }

    private static void restoreIsUndone() {
        CountedCache x = afterAccesses(2);
        x.save(0);
        x.stream(0, 2, 1, 3);
        String before = Checks.shortLooksOf(x);
        x.restore(0);
        Checks.due("restore undone: undo()", x.undo(), 3);
        Checks.due("restore undone: all is as before:", Checks.shortLooksOf(x), before);
        Checks.due("restore undone: restore(0) again", x.restore(0), 2);
    }

    /** A restore is saved as a seventh state too. */
    private static void restoreWithSixSavedStates() {
        CountedCache x = afterAccesses(6);
        x.save(0);
        x.restore(0);
        Checks.due("seventh restore: savedStates()", x.savedStates(), 6);
        Checks.due("seventh restore: undo()", x.undo(), 5);
        Checks.due("seventh restore: accesses()", x.accesses(), 6);
        undone("seventh restore", x, 1, 2, 3, 4, 5);
    }

    /** "The text buffer, the saved states and the slots are not part of the state." */
    private static void undoLeavesTheSlots() {
        CountedCache x = afterAccesses(1);
        x.access(0, 1);
        x.save(1);
        x.undo();
        x.undo();
        Checks.due("undone to before the save: restore(1)", x.restore(1), 2);
        Checks.due("undone to before the save: restore(0)", Checks.outcome(() -> x.restore(0)), Refusals.BAD_STATE);
        x.save(0);
        x.undo();
        Checks.due("undone after the save: restore(0)", x.restore(0), 2);
    }

    private static void restoreLeavesTheSavedStates() {
        CountedCache x = new CountedCache();
        x.save(0);
        x.access(0, 0);
        x.access(0, 1);
        x.access(0, 2);
        x.restore(0);
        Checks.due("restored: savedStates()", x.savedStates(), 4);
        Checks.due("restored: undo()", x.undo(), 3);
        undone("restored", x, 0, 1, 2);
        CountedCache y = afterAccesses(2);
        y.save(1);
        y.undo();
        y.undo();
        y.restore(1);
        Checks.due("restored when none was saved: savedStates()", y.savedStates(), 1);
    }

    private static void restoreAndUndoLeaveTheText() {
        CountedCache x = new CountedCache();
        x.access(0, 0);
        Checks.append(x, "m;");
        x.save(0);
        Checks.append(x, "h");
        x.undo();
        Checks.due("undo: textLength()", x.textLength(), 3);
        x.restore(0);
        Checks.due("restore: textLength()", x.textLength(), 3);
        Checks.due("restore: errorPosition()", x.errorPosition(), -1);
        x.clearText();
        x.undo();
        Checks.due("undo: textLength() of a cleared text", x.textLength(), 0);
        x.restore(0);
        Checks.due("restore: textLength() of a cleared text", x.textLength(), 0);
    }
}
