/**
 * Section 6, and promises 10 to 13 and 33, at their boundaries:
 * a sentence stands above the first test that holds to it.
 */
final class TextBoundsTest {
    /** 80 characters, and valid. */
    private static final String FULL = "0:255;".repeat(13) + "f2";

    public static void main(String[] args) {
        firstText();
        lengthOfSeventyNineAndEighty();
        lengthAfterAFullTextIsCleared();
        clearOfTheEmptyText();
        oneCommand();
        severalCommands();
        fortyCommands();
        noCommand();
        semicolonBeforeAndBehind();
        twoSemicolons();
        noSemicolon();
        tenants();
        flushedTenants();
        leastNumber();
        greatestNumber();
        leadingZeros();
        eachNumber();
        eachFirstCharacter();
        eachSecondCharacter();
        eachCharacterOfANumber();
        textEndsTooEarly();
        firstErrorOfSeveral();
        beginningOfALongerText();
        errorInTheLastCharacter();
        errorPositionChangesNothing();

        runOfNoAccess();
        runOfHits();
        runOfTwentyHits();
        runOfAFullText();
        runInItsOrder();
        runOfTheLeastAndGreatestAddress();
        runFlushesTheTenant();
        runOfTwoCommandsOfAKind();
        runOfABypass();
        runLeavesTheText();
        textCallsSaveNoState();
        Checks.end("TextBoundsTest");
    }

    private static void position(String text, int due) {
        CountedCache x = new CountedCache();
        Checks.append(x, text);
        Checks.due("errorPosition() of \"" + text + "\"", x.errorPosition(), due);
    }

    // ---- promises 10, 11 and 33

    /** "The text buffer holds at most 80 characters and is empty at first." */
    private static void firstText() {
        CountedCache x = new CountedCache();
        Checks.due("first text: textLength()", x.textLength(), 0);
        Checks.due("first text: clearText()", x.clearText(), 0);
        Checks.due("first text: errorPosition()", x.errorPosition(), 0);
    }

    /** "Throws IllegalStateException if the text has 80 characters": the eightieth is taken, the next one is not. */
    private static void lengthOfSeventyNineAndEighty() {
        CountedCache x = new CountedCache();
        for (int length = 1; length <= 80; length++) {
            Checks.due("appendText, character " + length, x.appendText(FULL.charAt(length - 1)), length);
            Checks.due("textLength() after " + length, x.textLength(), length);
        }
        Checks.due("appendText, character 81", Checks.outcome(() -> x.appendText('m')), Refusals.BAD_STATE);
        Checks.due("textLength() after 81", x.textLength(), 80);
        Checks.due("errorPosition() after 81", x.errorPosition(), -1);
    }

    private static void lengthAfterAFullTextIsCleared() {
        CountedCache x = new CountedCache();
        Checks.append(x, FULL);
        Checks.due("clearText() of 80", x.clearText(), 80);
        Checks.due("textLength() of a cleared text", x.textLength(), 0);
        Checks.due("clearText() again", x.clearText(), 0);
        Checks.due("appendText('m') to a cleared text", x.appendText('m'), 1);
        Checks.due("errorPosition() without what was cleared", x.errorPosition(), -1);
        Checks.due("clearText() of 1", x.clearText(), 1);
    }

    private static void clearOfTheEmptyText() {
        CountedCache x = new CountedCache();
        x.appendText('m');
        x.clearText();
        Checks.due("clearText() of an emptied text", x.clearText(), 0);
        Checks.due("errorPosition() of an emptied text", x.errorPosition(), 0);
        Checks.due("runText() of an emptied text", Checks.outcome(x::runText), Refusals.BAD_STATE);
    }

    // ---- promise 12: valid texts

    /** "A valid text consists of one or more commands" */
    private static void oneCommand() {
        for (String text : new String[] {"0:0", "f0", "m", "h"}) {
            position(text, -1);
        }
    }

    private static void severalCommands() {
        for (String text : new String[] {"m;h", "h;m;f3", "2:7;f1;m;h;0:0", "0:1;0:1"}) {
            position(text, -1);
        }
    }

    /** The most commands that 80 characters hold. */
    private static void fortyCommands() {
        position("m;".repeat(39) + "m", -1);
        position("m;".repeat(39) + "f3", -1);
    }

    /** "(it ends too early, or it is empty), the error position is the length of the text" */
    private static void noCommand() {
        position("", 0);
    }

    /** "with one semicolon between two commands" */
    private static void semicolonBeforeAndBehind() {
        position(";", 0);
        position(";m", 0);
        position("m;", 2);
        position("0:0;", 4);
        position("f0;", 3);
    }

    private static void twoSemicolons() {
        position("m;;m", 2);
        position("0:0;;", 4);
        position("f1;;h", 3);
    }

    private static void noSemicolon() {
        position("mm", 1);
        position("mh", 1);
        position("hm", 1);
        position("h0:0", 1);
        position("f0m", 2);
        position("f0f0", 2);
        position("0:0m", 3);
        position("0:0f1", 3);
        position("0:255h", 5);
        position("0:0:0", 3);
    }

    /** "t stands for a digit from 0 to 3" */
    private static void tenants() {
        position("0:7", -1);
        position("3:7", -1);
        position("4:7", 0);
        position("/:7", 0);
        position("9:7", 0);
        position("00:7", 1);
        position("m;4:7", 2);
    }

    private static void flushedTenants() {
        position("f0", -1);
        position("f3", -1);
        position("f4", 1);
        position("f/", 1);
        position("f9", 1);
        position("f:", 1);
        position("f00", 2);
        position("ff", 1);
        position("fm", 1);
    }

    /** "a decimal number from 0 to 255" */
    private static void leastNumber() {
        position("1:0", -1);
        position("1:-1", 2);
        position("1:/", 2);
        position("1::", 2);
        position("1:+1", 2);
    }

    private static void greatestNumber() {
        position("1:255", -1);
        position("1:256", 4);
        position("1:260", 4);
        position("1:300", 4);
        position("1:999", 4);
        position("1:249", -1);
        position("1:199", -1);
        position("1:99", -1);
        position("1:2555", 5);
        position("1:1000", 5);
        position("1:2550", 5);
        position("1:26", -1);
        position("1:30", -1);
    }

    /** "without leading zeros (0 is written as "0")" */
    private static void leadingZeros() {
        position("2:0", -1);
        position("2:00", 3);
        position("2:01", 3);
        position("2:007", 3);
        position("2:0;2:00", 7);
        position("2:10", -1);
        position("2:100", -1);
        position("2:200", -1);
    }

    /** All numbers up to 320, and all characters at the places of the grammar. */
    private static void eachNumber() {
        for (int number = 0; number <= 320; number++) {
            position("3:" + number, number <= 255 ? -1 : 4);
        }
    }

    private static void eachFirstCharacter() {
        for (char sign = 32; sign <= 126; sign++) {
            int due = sign == 'm' || sign == 'h' ? -1 : "0123f".indexOf(sign) >= 0 ? 1 : 0;
            position("" + sign, due);
        }
    }

    private static void eachSecondCharacter() {
        for (char sign = 32; sign <= 126; sign++) {
            position("m" + sign, sign == ';' ? 2 : 1);
            position("h" + sign, sign == ';' ? 2 : 1);
            position("3" + sign, sign == ':' ? 2 : 1);
            position("f" + sign, "0123".indexOf(sign) >= 0 ? -1 : 1);
            position("f2" + sign, sign == ';' ? 3 : 2);
        }
    }

    private static void eachCharacterOfANumber() {
        String digits = "0123456789";
        for (char sign = 32; sign <= 126; sign++) {
            boolean digit = digits.indexOf(sign) >= 0;
            position("0:" + sign, digit ? -1 : 2);
            position("0:0" + sign, sign == ';' ? 4 : 3);
            position("0:9" + sign, digit ? -1 : sign == ';' ? 4 : 3);
            position("0:19" + sign, digit ? -1 : sign == ';' ? 5 : 4);
            position("0:25" + sign, "012345".indexOf(sign) >= 0 ? -1 : sign == ';' ? 5 : 4);
            position("0:26" + sign, sign == ';' ? 5 : 4);
            position("0:255" + sign, sign == ';' ? 6 : 5);
        }
    }

    /** "If there is no such index and the text is not valid ... the error position is the length of the text." */
    private static void textEndsTooEarly() {
        position("0", 1);
        position("0:", 2);
        position("f", 1);
        position("m;0", 3);
        position("m;0:", 4);
        position("m;f", 3);
        position("3:255;", 6);
    }

    /** "the smallest index i" */
    private static void firstErrorOfSeveral() {
        position("x;y;z", 0);
        position("m;4;5:1", 2);
        position("0:256;0:256", 4);
        position("0:00;x", 3);
        position("f5;", 1);
        position("m;h;q;", 4);
    }

    /** "no valid text of any length begins with": a text of 80 may be the beginning of a longer one. */
    private static void beginningOfALongerText() {
        position("m;".repeat(40), 80);
        position("m;".repeat(39) + "0:", 80);
        position("0:255;".repeat(13) + "m;", 80);
        position("m;".repeat(39) + "mf", 79);
        position("m;".repeat(39) + "m", -1);
        position("0:0;" + "m;".repeat(37) + "f", 79);
        position("0:0;" + "m;".repeat(37) + ";f", 78);
        position("0:0;" + "m;".repeat(37) + "h;", 80);
    }

    private static void errorInTheLastCharacter() {
        position("0:255;".repeat(13) + "f4", 79);
        position("0:255;".repeat(13) + "4:", 78);
        position("m;".repeat(38) + "0:01", 79);
        position("m;".repeat(38) + "0:10", -1);
        position("0:0;".repeat(18) + "m;m;0:25", -1);
        position("f0;".repeat(25) + "0:256", 79);
        position("f0;".repeat(25) + "0:255", -1);
    }

    private static void errorPositionChangesNothing() {
        CountedCache x = new CountedCache();
        Checks.append(x, "0:0;");
        Checks.due("errorPosition() of a text too short", x.errorPosition(), 4);
        Checks.due("errorPosition() again", x.errorPosition(), 4);
        Checks.append(x, "m");
        Checks.due("errorPosition() of the text when it is whole", x.errorPosition(), -1);
        Checks.due("errorPosition() makes no access", x.accesses(), 0);
        Checks.due("errorPosition() saves no state", x.savedStates(), 0);
        Checks.append(x, "m");
        Checks.due("errorPosition() of the text with one more", x.errorPosition(), 5);
    }

    // ---- promise 13

    private static void run(String text, CountedCache x, int due) {
        Checks.setText(x, text);
        Checks.due("runText() of \"" + text + "\"", x.runText(), due);
    }

    /** "Returns the number of accesses of the text that are hits." */
    private static void runOfNoAccess() {
        CountedCache x = new CountedCache();
        run("m", x, 0);
        run("h", x, 0);
        run("f0", x, 0);
        run("m;h;f3;m", x, 0);
        Checks.due("no access: accesses()", x.accesses(), 0);
        Checks.due("no access: savedStates()", x.savedStates(), 4);
    }

    private static void runOfHits() {
        CountedCache x = new CountedCache();
        run("0:0", x, 0);
        run("0:0", x, 1);
        run("0:0;1:0;0:0;1:0", x, 3);
        Checks.due("hits: count(0, HIT)", x.count(0, 1), 3);
        Checks.due("hits: count(1, HIT)", x.count(1, 1), 1);
    }

    /** The most accesses that 80 characters hold. */
    private static void runOfTwentyHits() {
        CountedCache x = new CountedCache();
        run("1:4;".repeat(19) + "1:4", x, 19);
        run("1:4;".repeat(19) + "1:4", x, 20);
        Checks.due("twenty: accesses()", x.accesses(), 40);
        Checks.due("twenty: gain(1, 0)", x.gain(1, 0), 39);
    }

    private static void runOfAFullText() {
        CountedCache x = new CountedCache();
        x.access(2, 0);
        run(FULL, x, 12);
        Checks.due("full text: accesses()", x.accesses(), 14);
        Checks.due("full text: its last command", x.lines(2, false), 0);
        run("0:0;".repeat(19) + "0:77", x, 18);
        Checks.due("full text: its last number", x.ifAccessed(0, 77), 1);
        Checks.due("full text: not the number without its last digit", x.ifAccessed(0, 7), 0);
        run("m;".repeat(38) + "3:25", x, 0);
        Checks.due("full text: its last address", x.line(1, 3), 793);
    }

    /** "Executes all commands of the text in their order" */
    private static void runInItsOrder() {
        CountedCache x = new CountedCache();
        run("0:0;f0;0:0;0:0", x, 1);
        Checks.due("order: lines(0, false)", x.lines(0, false), 1);
        run("0:0;0:0;f0", x, 2);
        Checks.due("order: flush at last", x.lines(0, false), 0);
        CountedCache y = new CountedCache();
        run("1:0;1:0;1:0;h;1:0", y, 3);
        Checks.due("order: gain(1, 0)", y.gain(1, 0), 2);
        CountedCache z = new CountedCache();
        run("1:0;1:0;1:0;1:0;h", z, 3);
        Checks.due("order: gain(1, 0), halved at last", z.gain(1, 0), 1);
        CountedCache u = new CountedCache();
        u.giveWay(0, 1);
        u.giveWay(4, 1);
        run("0:1;m;0:1;0:1", u, 1);
        Checks.due("order: count(0, BYPASS) before m", u.count(0, 2), 1);
        Checks.due("order: count(0, MISS) after m", u.count(0, 0), 1);
    }

    private static void runOfTheLeastAndGreatestAddress() {
        CountedCache x = new CountedCache();
        run("0:0;3:255", x, 0);
        Checks.due("address 0", x.line(0, 0), 0);
        Checks.due("address 255", x.line(3, 3), 1023);
        run("3:0;0:255;1:9;1:10;1:99;1:100", x, 0);
        Checks.due("address 255 of tenant 0", x.line(3, 0), 255);
        Checks.due("address 9", x.ifAccessed(1, 9), 1);
        Checks.due("address 10", x.ifAccessed(1, 10), 1);
        Checks.due("address 99", x.ifAccessed(1, 99), 1);
        Checks.due("address 100", x.ifAccessed(1, 100), 1);
    }

    /** ""ft": flush the tenant" */
    private static void runFlushesTheTenant() {
        for (int tenant = 0; tenant < 4; tenant++) {
            CountedCache x = new CountedCache();
            run("0:0;1:0;2:0;3:0;f" + tenant, x, 0);
            for (int other = 0; other < 4; other++) {
                Checks.due("f" + tenant + ": lines(" + other + ", false)", x.lines(other, false),
                        other == tenant ? 0 : 1);
            }
        }
    }

    private static void runOfTwoCommandsOfAKind() {
        CountedCache x = new CountedCache();
        Checks.giveWays(x, "00000000");
        run("m;m", x, 0);
        Checks.due("m;m: owners", Checks.ownersOf(x), "12000000");
        Checks.giveGain(x, 0, 0, 7);
        run("h;h", x, 0);
        Checks.due("h;h: gain(0, 0)", x.gain(0, 0), 1);
    }

    /** A bypass is no hit. */
    private static void runOfABypass() {
        CountedCache x = new CountedCache();
        x.giveWay(0, 1);
        x.giveWay(4, 1);
        run("0:0;0:0", x, 0);
        Checks.due("bypass: count(0, BYPASS)", x.count(0, 2), 2);
    }

    /** "The text stays in the buffer." */
    private static void runLeavesTheText() {
        CountedCache x = new CountedCache();
        run("0:1;1:1", x, 0);
        Checks.due("stays: textLength()", x.textLength(), 7);
        Checks.due("stays: errorPosition()", x.errorPosition(), -1);
        Checks.due("stays: runText() again", x.runText(), 2);
        Checks.append(x, ";2:1");
        Checks.due("stays: runText() with more behind it", x.runText(), 2);
        Checks.due("stays: accesses()", x.accesses(), 7);
    }

    /** appendText, clearText and errorPosition are not undoable; runText is one call. */
    private static void textCallsSaveNoState() {
        CountedCache x = new CountedCache();
        Checks.append(x, "m;h");
        x.errorPosition();
        x.clearText();
        Checks.due("texts: savedStates()", x.savedStates(), 0);
        run("m;h;0:0;f0", x, 0);
        Checks.due("texts: savedStates() after runText()", x.savedStates(), 1);
    }
}
