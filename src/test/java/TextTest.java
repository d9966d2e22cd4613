/** Promises 10 to 13: appendText, clearText, errorPosition, runText. */
final class TextTest {
    public static void main(String[] args) {
        appendText();
        clearText();
        validTexts();
        errorPositions();
        runText();
        runTextIsOneCall();
        runTextEndsEpochs();
        Checks.end("TextTest");
    }

    private static void appendText() {
        CountedCache x = new CountedCache();
        Checks.due("appendText(32)", x.appendText(32), 1);
        Checks.due("appendText(126)", x.appendText(126), 2);
        Checks.due("append: textLength()", x.textLength(), 2);
        Checks.due("append: savedStates()", x.savedStates(), 0);
    }

    private static void clearText() {
        CountedCache x = new CountedCache();
        Checks.due("clearText() of the empty text", x.clearText(), 0);
        Checks.append(x, "0:1;m");
        Checks.due("clearText()", x.clearText(), 5);
        Checks.due("clear: textLength()", x.textLength(), 0);
        Checks.due("clear: errorPosition()", x.errorPosition(), 0);
        Checks.append(x, "h");
        Checks.due("clear: a new text", x.errorPosition(), -1);
        Checks.due("clear: savedStates()", x.savedStates(), 0);
    }

    private static void validTexts() {
        String[] texts = {"m", "h", "f0", "f3", "0:0", "3:255", "1:9", "2:10", "1:99", "1:100", "1:199", "1:200",
            "1:249", "1:250", "m;h;f1;0:0;0:25", "m;m;m", "0:0;0:0"};
        CountedCache x = new CountedCache();
        for (String text : texts) {
            Checks.setText(x, text);
            Checks.due("errorPosition() of \"" + text + "\"", x.errorPosition(), -1);
        }
        Checks.setText(x, "0:255;".repeat(13) + "f2");
        Checks.due("errorPosition() of a text of 80", x.errorPosition(), -1);
    }

    private static void errorPositions() {
        CountedCache x = new CountedCache();
        Object[][] rows = {
            // too early
            {"", 0}, {"f", 1}, {"0", 1}, {"0:", 2}, {"m;", 2}, {"0:1;", 4}, {"h;f", 3}, {"m;2:", 4},
            // a wrong sign
            {"4:0", 0}, {" m", 0}, {";", 0}, {"m;;", 2}, {"m ", 1}, {"mm", 1}, {"f4", 1}, {"f:", 1}, {"f00", 2},
            {"0;", 1}, {"00", 1}, {"0:;", 2}, {"0:a", 2}, {"0:-1", 2}, {"0:1 ", 3}, {"0:1:2", 3}, {"M", 0}, {"x", 0},
            // numbers
            {"0:00", 3}, {"0:01", 3}, {"0:256", 4}, {"0:260", 4}, {"0:300", 4}, {"0:999", 4}, {"0:1000", 5},
            {"0:2550", 5}, {"m;1:256;x", 6}, {"0:25x", 4}, {"0:/", 2}, {"/:0", 0}, {"0::0", 2}, {"9", 0},
            // the first of several
            {"m;x;y", 2}, {"5;5", 0},
        };
        for (Object[] row : rows) {
            Checks.setText(x, (String) row[0]);
            Checks.due("errorPosition() of \"" + row[0] + "\"", x.errorPosition(), row[1]);
        }
    }

    private static void runText() {
        CountedCache x = new CountedCache();
        Checks.append(x, "0:0;0:0;1:255;0:0;h;f1;1:255;3:12");
        Checks.due("runText()", x.runText(), 2);
        Checks.due("run: gain(0, 0)", x.gain(0, 0), 1);
        Checks.due("run: accesses()", x.accesses(), 6);
        Checks.due("run: count(1, MISS)", x.count(1, 0), 2);
        Checks.due("run: line(3, 1)", x.line(3, 1), 511);
        Checks.due("run: line(0, 3)", x.line(0, 3), 3 * 256 + 12);
        Checks.due("run: the text stays", x.textLength(), 33);
        Checks.due("runText() again", x.runText(), 5);
        x.giveWay(7, 0);
        Checks.setText(x, "m");
        Checks.due("run: runText() of m", x.runText(), 0);
        Checks.due("run: a way is moved", x.waysOf(3), 2);
    }

    private static void runTextIsOneCall() {
        CountedCache x = new CountedCache();
        x.access(0, 3);
        String before = Checks.looksOf(x);
        Checks.append(x, "0:0;f0;m;h;2:8");
        x.runText();
        Checks.due("run: savedStates()", x.savedStates(), 2);
        Checks.due("run: undo()", x.undo(), 1);
        Checks.due("run: undo leaves the text", x.textLength(), 14);
        x.clearText();
        Checks.due("run: undone", Checks.looksOf(x), before);
    }

    private static void runTextEndsEpochs() {
        CountedCache x = new CountedCache();
        x.setEpoch(2);
        x.giveWay(1, 0);
        Checks.append(x, "0:4;0:4");
        Checks.due("run: hits", x.runText(), 1);
        Checks.due("run: an epoch ends", x.gain(0, 0), 0);
        Checks.due("run: a way is moved at its end", x.waysOf(0), 2);
    }
}
