/** Promises 14 to 16 and 32: undo, save, restore, savedStates. */
final class UndoTest {
    public static void main(String[] args) {
        undoOfStamps();
        undoKeepsSix();
        saveCopies();
        restoreIsUndoable();
        slotsAreApart();
        Checks.end("UndoTest");
    }

    private static void undoOfStamps() {
        CountedCache x = new CountedCache();
        x.access(0, 0);
        x.access(0, 4);
        x.save(0);
        x.access(0, 0);
        Checks.due("stamps: victim(0, 8)", x.victim(0, 8), 4);
        x.undo();
        Checks.due("stamps: victim(0, 8) after undo", x.victim(0, 8), 0);
        x.access(0, 0);
        x.restore(0);
        Checks.due("stamps: victim(0, 8) after restore", x.victim(0, 8), 0);
    }

    private static void undoKeepsSix() {
        CountedCache x = new CountedCache();
        for (int i = 1; i <= 9; i++) {
            x.access(0, i);
            Checks.due("six: savedStates() after " + i, x.savedStates(), Math.min(i, 6));
        }
        for (int i = 5; i >= 0; i--) {
            Checks.due("six: undo()", x.undo(), i);
            Checks.due("six: accesses()", x.accesses(), 3 + i);
        }
        Checks.due("six: undo() of the oldest, which is discarded", Checks.outcome(x::undo), Refusals.BAD_STATE);
        x.access(0, 100);
        Checks.due("six: undo() after a new call", x.undo(), 0);
        Checks.due("six: accesses() after it", x.accesses(), 3);
    }

    private static void saveCopies() {
        CountedCache x = new CountedCache();
        Checks.due("save(0) of a new object", x.save(0), 0);
        x.stream(1, 0, 1, 6);
        x.access(2, 0);
        Checks.due("save(1)", x.save(1), 7);
        Checks.due("save: savedStates()", x.savedStates(), 2);
        String saved = Checks.looksOf(x);
        x.flush(1);
        x.setLeast(0, 0);
        x.giveWay(0, 1);
        Checks.due("restore(1)", x.restore(1), 7);
        x.undo();
        x.undo();
        x.undo();
        x.undo();
        Checks.due("save: the same as undone", Checks.looksOf(x), saved);
        x.restore(1);
        x.flush(1);
        Checks.due("the slot keeps its copy: restore(1)", x.restore(1), 7);
        x.flush(2);
        Checks.due("save(1) replaces", x.save(1), 6);
        Checks.due("restore(1) of what replaced it", x.restore(1), 6);
        Checks.due("restore(1): line(0, 2)", x.line(0, 2), -1);
    }

    private static void restoreIsUndoable() {
        CountedCache x = new CountedCache();
        x.save(0);
        x.stream(0, 0, 4, 10);
        x.stream(0, 0, 4, 8);
        String before = Checks.looksOf(x);
        Checks.due("restore(0) of the new object's state", x.restore(0), 0);
        Checks.due("restore: savedStates()", x.savedStates(), 3);
        Checks.due("restore: accesses()", x.accesses(), 0);
        Checks.due("restore: gains", x.utility(0, 8), 0);
        Checks.due("restore: lists", x.monitored(0, 0, 0), -1);
        Checks.due("restore: undo()", x.undo(), 2);
        Checks.due("restore: undone", Checks.looksOf(x), before);
        Checks.append(x, "m;h");
        x.restore(0);
        Checks.due("restore: the text is not part of the state", x.textLength(), 3);
    }

    private static void slotsAreApart() {
        CountedCache x = new CountedCache();
        x.access(0, 0);
        x.save(0);
        x.access(0, 1);
        x.access(0, 2);
        x.save(1);
        x.undo();
        x.undo();
        x.undo();
        Checks.due("apart: undo leaves the slots: restore(1)", x.restore(1), 3);
        Checks.due("apart: restore(0)", x.restore(0), 1);
        Checks.due("apart: accesses()", x.accesses(), 1);
    }
}
