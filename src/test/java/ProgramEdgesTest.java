import java.util.function.Supplier;

/** The edges that 'Programs' names, and promises 18 to 21; the sentences stand at the tests. */
public final class ProgramEdgesTest {
    private static final String[] WORDS = {"kind", "scale", "rule", "come", "prize", "weigh", "claim", "buy"};
    private static final int[] NUMBERS = {3, 2, 1, 1, 5, 3, 2, 3};

    private ProgramEdgesTest() {
    }

    public static void main(String[] args) {
        atMost140();
        everyCharacter();
        clearingTheText();
        nothingBehindTheText();
        possiblyNone();
        asTheCalls();
        theDeviationIsZero();
        everyCommandEndsWithASign();
        asManyNumbersAsItTakes();
        wordsAlone();
        lettersAToZ();
        atMostSixDigits();
        noZeroAhead();
        spacesBeforeBetweenAndBehind();
        spacesWhereTheyAreNeeded();
        noOtherSpaces();
        anyOtherCharacterIsAToken();
        theFirstCharacterOfTheToken();
        theWordOfTheCommand();
        theLengthOfTheText();
        readAndRunOneByOne();
        errorsOfEveryCommand();
        theDepthAndTheCause();
        commandsAheadOfTheFailure();
        nothingStays();
        theTextIsKeptOrEmpty();
        oneAction();
        theLatestFailure();
        Due.end();
    }

    private static void fails(String text, int kind, int place, int code, int commands) {
        fails(new TicketScales(), text, kind, place, code, commands);
    }

    private static void fails(TicketScales x, String text, int kind, int place, int code, int commands) {
        Due.due("run of \"" + text + "\"", Due.run(x, text), -1000 - place);
        Due.failure(x, "failure of \"" + text + "\"", kind, place, code, commands);
        Due.due("text of \"" + text + "\"", x.count(13), text.length());
    }

    private static void grammar(String text, int place, int commands) {
        fails(text, 1, place, Due.NONE, commands);
    }

    private static void runs(String text, int commands) {
        TicketScales x = new TicketScales();
        Due.due("run of \"" + text + "\"", Due.run(x, text), commands);
        Due.due("text behind \"" + text + "\"", x.count(13), 0);
        Due.due("states behind \"" + text + "\"", x.count(12), 1);
        Due.due("no failure behind \"" + text + "\"", x.failure(0), Due.NONE);
    }

    /** "A text of at most 140 characters"; "CAPACITY_EXCEEDED if the text already has 140 characters" */
    private static void atMost140() {
        TicketScales x = new TicketScales();
        for (int i = 1; i <= 140; i++) {
            Due.due("append", x.append(i == 140 ? ';' : i > 134 ? "rule1".charAt(i - 135) : ' '), i);
            Due.due("length", x.count(13), i);
        }
        Due.due("a 141st", x.append(';'), Due.FULL);
        Due.due("a 141st that is out of range", x.append(256), Due.BAD);
        Due.due("length", x.count(13), 140);
        Due.due("run", x.run(), 1);
        Due.due("rule", x.count(3), 1);
        Due.due("room again", x.append(';'), 1);
        runs("rule1;".repeat(23), 23);
        runs("rule0;".repeat(23) + "  ", 23);
        grammar("rule1;".repeat(23) + " ;", 139, 23);
        grammar("rule1;".repeat(23) + " r", 139, 23);
        grammar(" ".repeat(139) + "x", 139, 0);
        grammar(" ".repeat(136) + "rule", 140, 0);
        grammar(" ".repeat(134) + "rule 1", 140, 0);
        grammar("rule 1" + " ".repeat(134), 140, 0);
        runs(" ".repeat(133) + "rule 1;", 1);
        runs("rule 1;" + " ".repeat(133), 1);
        runs("rule" + " ".repeat(134) + "1;", 1);
        runs(" ".repeat(140), 0);
    }

    /** "character code, 1 to 255" */
    private static void everyCharacter() {
        for (int code = 1; code <= 255; code++) {
            TicketScales x = new TicketScales();
            Due.due("append", x.append(code), 1);
            Due.due("run of the character " + code, x.run(), code == ' ' ? 0 : -1000);
            Due.due("text", x.count(13), code == ' ' ? 0 : 1);
            Due.due("kind", x.failure(0), code == ' ' ? Due.NONE : 1);
        }
        TicketScales x = new TicketScales();
        Due.due("append(0)", x.append(0), Due.BAD);
        Due.due("append(256)", x.append(256), Due.BAD);
        Due.due("append(288)", x.append(256 + ' '), Due.BAD);
        Due.due("length", x.count(13), 0);
    }

    private static void clearingTheText() {
        TicketScales x = new TicketScales();
        Due.due("an empty text", x.clearText(), 0);
        Due.type(x, "x".repeat(140));
        Due.due("a full text", x.clearText(), 140);
        Due.due("length", x.count(13), 0);
        Due.due("an empty text", x.clearText(), 0);
        Due.type(x, "rule ");
        x.clearText();
        Due.type(x, "come 1;");
        Due.due("nothing of the text before", x.run(), 1);
        Due.type(x, "rule 2; rule 3;");
        x.clearText();
        Due.type(x, "rule 1;");
        Due.due("nor behind it", x.run(), 1);
        Due.due("rule", x.count(3), 1);
    }

    /** What an earlier and longer text had there is not read. */
    private static void nothingBehindTheText() {
        String[] texts = {"rule 1", "rule ", "rule", "rul", "ru", "r", "rule 1;rule 2", "rule 1;rule ", "rule 1;r"};
        int[] places = {6, 5, 4, 0, 0, 0, 13, 12, 7};
        for (int i = 0; i < texts.length; i++) {
            TicketScales x = new TicketScales();
            Due.type(x, "rule 1;rule 2;rule 3;");
            x.clearText();
            fails(x, texts[i], 1, places[i], Due.NONE, texts[i].length() > 7 ? 1 : 0);
            TicketScales y = new TicketScales();
            Due.due("run", Due.run(y, "rule 1;rule 2;rule 3;"), 3);
            fails(y, texts[i], 1, places[i], Due.NONE, texts[i].length() > 7 ? 1 : 0);
        }
        TicketScales x = new TicketScales();
        Due.run(x, "come 1234;");
        Due.due("fewer digits", Due.run(x, "come 12"), -1007);
        x.append(';');
        Due.due("run", x.run(), 1);
        Due.due("points", x.customer(1, 0), 12);
    }

    /** "commands (possibly none)"; "also without commands" */
    private static void possiblyNone() {
        runs("", 0);
        runs(" ", 0);
        runs("     ", 0);
        grammar(";", 0, 0);
        grammar("  ;", 2, 0);
        grammar("rule 1;;", 7, 1);
        TicketScales x = new TicketScales();
        x.setFee(9);
        Due.due("run", x.run(), 0);
        Due.due("states", x.count(12), 2);
        Due.due("undo()", x.undo(), 1);
        Due.due("fee", x.count(4), 9);
    }

    /** "as setKind()" and so on: what a command does is what the call does. */
    private static void asTheCalls() {
        String[] names = {"setKind", "setScale", "setRule", "come", "addPrize", "claim", "buy", "setScale", "setScale", "come"};
        int[][] arguments = {{2, 5000, 50}, {1000, 0}, {3}, {9999}, {5000, 20000, 99, 100000, 100000}, {2, 300}, {0, 1, 8},
            {1, 29}, {7, 2000}, {0}};
        String[] texts = {"kind 2 5000 50;", "scale 1000 0;", "rule 3;", "come 9999;", "prize 5000 20000 99 100000 100000;",
            "claim 2 300;", "buy 0 1 8;", "scale 1 29;", "scale 7 2000;", "come 0;"};
        for (int i = 0; i < names.length; i++) {
            TicketScales x = States.busy();
            TicketScales y = States.busy();
            Due.isTrue(names[i], Calls.answer(x, names[i], arguments[i]) > -1000);
            x.clearText();
            Due.due(texts[i], Due.run(y, texts[i]), 1);
            Due.isTrue(texts[i] + " as the call", View.of(x).equals(View.of(y)));
        }
    }

    /** "as weigh() with the deviation 0" */
    private static void theDeviationIsZero() {
        TicketScales x = States.busy();
        TicketScales y = States.busy();
        x.weigh(1, 1, 500, 0);
        x.clearText();
        Due.due("run", Due.run(y, "weigh 1 1 500;"), 1);
        Due.isTrue("as the call", View.of(x).equals(View.of(y)));
        Due.due("reading", y.customer(1, 3), 1000000);
        Due.due("run", Due.run(y, "scale 1 0;weigh 1 1 1;"), 2);
        Due.due("reading", y.customer(1, 3), 2000);
    }

    private static String numbers(int count) {
        StringBuilder text = new StringBuilder();
        for (int i = 0; i < count; i++) {
            text.append(' ').append(7 + i);
        }
        return text.toString();
    }

    /** "each of which ends with ";"" */
    private static void everyCommandEndsWithASign() {
        runs("rule 1;rule 2;", 2);
        grammar("rule 1 rule 2;", 7, 0);
        grammar("rule 1, rule 2;", 6, 0);
        grammar("rule 1:", 6, 0);
        grammar("rule 1;rule 2", 13, 1);
        for (int i = 0; i < WORDS.length; i++) {
            String text = WORDS[i] + numbers(NUMBERS[i]);
            grammar(text, text.length(), 0);
            grammar(text + " rule 1;", text.length() + 1, 0);
        }
    }

    /** "a word and then numbers": neither less nor more of them. */
    private static void asManyNumbersAsItTakes() {
        for (int i = 0; i < WORDS.length; i++) {
            for (int count = 0; count < NUMBERS[i]; count++) {
                String text = WORDS[i] + numbers(count);
                grammar(text, text.length(), 0);
                grammar(text + ";", text.length(), 0);
                grammar(text + " ;", text.length() + 1, 0);
                grammar(text + " x;", text.length() + 1, 0);
            }
            String text = WORDS[i] + numbers(NUMBERS[i]);
            grammar(text + " 1;", text.length() + 1, 0);
            grammar(text + " x;", text.length() + 1, 0);
        }
    }

    private static void wordsAlone() {
        String[] others = {"undo", "take", "restore", "leave", "fee", "bias", "run", "set", "setkind", "setrule", "addprize", "price",
            "kin", "kinds", "ind", "xkind", "scal", "scales", "rul", "ruler", "com", "comes", "priz", "prizes", "weig", "weight", "clai",
            "claims", "bu", "buyx", "a", "z", "b", "k", "bus", "claix", "weigx", "prizx", "comx", "rulx", "scalx",
            "xind", "xcale", "xule", "xome", "xrize", "xeigh", "xlaim", "xuy", "kinx", "kxnd", "scxle", "ruxe", "cxme", "prxze", "bxy"};
        for (String word : others) {
            grammar(word + " 1 1 1;", 0, 0);
            grammar("rule 1; " + word + " 1;", 8, 1);
        }
        grammar("1 rule;", 0, 0);
        grammar("1;", 0, 0);
    }

    /** "Tokens are maximal runs of letters a to z": no other letter is part of one. */
    private static void lettersAToZ() {
        grammar("RULE 1;", 0, 0);
        grammar("rulE 1;", 0, 0);
        grammar("rul" + (char) 233 + " 1;", 0, 0);
        grammar("rule" + (char) 233 + "1;", 4, 0);
        grammar("ruleE 1;", 4, 0);
        grammar("rule`1;", 4, 0);
        grammar("rule{1;", 4, 0);
        grammar("rule@1;", 4, 0);
        grammar("rule_1;", 4, 0);
        grammar("ruleaz;", 0, 0);
        grammar("rulea1;", 0, 0);
        grammar("rulez1;", 0, 0);
        grammar("kind1a2 3;", 5, 0);
        grammar("kind1 2z3;", 7, 0);
    }

    /** "A number is a run of digits, ... at most 6 of them"; "a number of more than 6 digits" */
    private static void atMostSixDigits() {
        fails("come 999999;", 2, 0, Due.BAD, 0);
        fails("come 100000;", 2, 0, Due.BAD, 0);
        grammar("come 1000000;", 5, 0);
        grammar("come 9999999;", 5, 0);
        grammar("come 0000001;", 5, 0);
        grammar("come 2147483648;", 5, 0);
        grammar("come 4294967297;", 5, 0);
        grammar("come 18446744073709551617;", 5, 0);
        grammar("rule 1;come " + "9".repeat(127) + ";", 12, 1);
        runs("prize 1 1 1 100000 100000;", 1);
        fails("prize 1 1 1 100001 1;", 2, 0, Due.BAD, 0);
        grammar("prize 1 1 1 1 1000000;", 14, 0);
        // Each digit counts.
        TicketScales x = new TicketScales();
        Due.due("run", Due.run(x, "prize 1234 5678 90 12345 67809;"), 1);
        int[] due = {1234, 5678, 90, 12345, 67809};
        for (int what = 0; what < due.length; what++) {
            Due.due("prize(0, " + what + ")", x.prize(0, what), due[what]);
        }
        grammar("rule/1;", 4, 0);
        grammar("rule 1/;", 6, 0);
        grammar("rule 1:;", 6, 0);
        grammar("rule " + (char) 185 + ";", 5, 0);
    }

    /** "the first of several not 0"; "with a 0 ahead" */
    private static void noZeroAhead() {
        runs("rule 0;", 1);
        runs("come 10;", 1);
        runs("come 100;", 1);
        grammar("rule 00;", 5, 0);
        grammar("rule 01;", 5, 0);
        grammar("rule 000000;", 5, 0);
        grammar("come 010;", 5, 0);
        grammar("kind 0 0100 0;", 7, 0);
        grammar("kind 00 100 0;", 5, 0);
        grammar("kind 0 100 00;", 11, 0);
        grammar("rule 0 0;", 7, 0);
    }

    /** "Spaces (code 32) may stand before, between and after tokens" */
    private static void spacesBeforeBetweenAndBehind() {
        runs("  rule  1  ;  rule  2  ;  ", 2);
        runs("rule 1 ;", 1);
        runs("rule 1; rule 2;", 2);
        runs("kind   3   100   0;", 1);
        grammar("r ule 1;", 0, 0);
        grammar("ru le 1;", 0, 0);
        grammar("come 1 0;", 7, 0);
        grammar("rule 1;  ru", 9, 1);
    }

    /** "they are needed only between two runs of letters and between two runs of digits" */
    private static void spacesWhereTheyAreNeeded() {
        runs("rule1;rule2;", 2);
        runs("kind0 100 0;come5;", 2);
        grammar("kind0 1000;", 10, 0);
        grammar("scale10050;", 10, 0);
        grammar("rulerule 1;", 0, 0);
        grammar("rule1rule2;", 5, 0);
        runs("prize1 1 1 1 1;", 1);
    }

    /** Code 32 alone is a space. */
    private static void noOtherSpaces() {
        int[] codes = {1, 8, 9, 10, 11, 12, 13, 28, 31, 33, 127, 133, 160, 255};
        for (int code : codes) {
            grammar("rule" + (char) code + "1;", 4, 0);
            grammar((char) code + "rule 1;", 0, 0);
            grammar("rule 1" + (char) code + ";", 6, 0);
            grammar("rule 1;" + (char) code, 7, 1);
        }
    }

    /** "and any other character that is no space": each one is a token of its own, and none of them but ";" is allowed. */
    private static void anyOtherCharacterIsAToken() {
        for (int code = 33; code <= 255; code++) {
            boolean isWordOrNumber = code >= 'a' && code <= 'z' || code >= '0' && code <= '9';
            if (!isWordOrNumber) {
                grammar("rule " + (char) code + ";", 5, 0);
                if (code != ';') {
                    grammar("rule 1" + (char) code + ";", 6, 0);
                }
            }
        }
        grammar("rule -1;", 5, 0);
        grammar("rule +1;", 5, 0);
        grammar("rule 1.0;", 6, 0);
        grammar("scale 1,2;", 7, 0);
        grammar("rule (1);", 5, 0);
    }

    /** "Its place is the offset (from 0) of the first character of this token" */
    private static void theFirstCharacterOfTheToken() {
        grammar("undo;", 0, 0);
        grammar("   undo;", 3, 0);
        grammar("rule   1234567;", 7, 0);
        grammar("rule 1;   undo;", 10, 1);
        grammar("rule 1;rule 2;rule undo;", 19, 2);
        grammar("weigh 0 0  buy;", 11, 0);
        grammar("come 1;claim 0 012;", 15, 1);
        grammar("rule 1   2;", 9, 0);
    }

    /** "or of the word of this command" */
    private static void theWordOfTheCommand() {
        fails("rule 4;", 2, 0, Due.BAD, 0);
        fails("   rule 4;", 2, 3, Due.BAD, 0);
        fails("rule 3;  rule   4  ;", 2, 9, Due.BAD, 1);
        fails("come 1;  claim 0 1;", 3, 9, Due.STATE, 1);
        fails("rule 1;rule 2;rule 3;rule 4;rule 0;", 2, 21, Due.BAD, 3);
        fails(" ".repeat(133) + "rule 4;", 2, 133, Due.BAD, 0);
    }

    /** "if the text ends where something is missing, it is the length of the text" */
    private static void theLengthOfTheText() {
        grammar("rule", 4, 0);
        grammar("rule   ", 7, 0);
        grammar("   rule", 7, 0);
        grammar("rule 1", 6, 0);
        grammar("rule 1  ", 8, 0);
        grammar("kind 0 100", 10, 0);
        grammar("kind 0 100 0", 12, 0);
        grammar("rule 1;rule", 11, 1);
        grammar("rule 4", 6, 0);
        // Where a token is not allowed, it is not the end that counts.
        grammar("rul", 0, 0);
        grammar("rule 01", 5, 0);
        grammar("rule 1234567", 5, 0);
    }

    /** "The commands are read and run one by one. A failure ends the program." */
    private static void readAndRunOneByOne() {
        fails("rule 4;undo;", 2, 0, Due.BAD, 0);
        fails("rule 4;rule 01;", 2, 0, Due.BAD, 0);
        fails("rule 4;rule", 2, 0, Due.BAD, 0);
        grammar("undo;rule 4;", 0, 0);
        grammar("rule 4 undo;", 7, 0);
        fails("rule 1;rule 5;rule 6;undo;", 2, 7, Due.BAD, 1);
        // A command sees what the ones before it have done.
        runs("come 5;weigh 0 0 300;come 6;weigh 1 0 9;prize 9 9 9 9 9;buy 0 0 9;kind 0 900 0;claim 1 8;", 8);
        fails("come 5;weigh 0 0 1;weigh 1 0 1;", 2, 19, Due.BAD, 2);
        fails("scale 100 0;come 1;weigh 0 0 9;claim 0 8;claim 0 8;", 3, 41, Due.STATE, 4);
    }

    /** "2 a command whose call returns INVALID_ARGUMENT, 3 a command whose call returns another error code" */
    private static void errorsOfEveryCommand() {
        String[] bad = {"kind 4 100 0;", "kind 0 99 0;", "kind 0 5001 0;", "kind 0 100 51;", "scale 0 0;", "scale 1001 0;", "scale 1 2001;",
            "rule 4;", "come 10000;", "prize 0 1 1 1 1;", "prize 5001 1 1 1 1;", "prize 1 0 1 1 1;", "prize 1 20001 1 1 1;",
            "prize 1 1 100 1 1;", "prize 1 1 1 0 1;", "prize 1 1 1 100001 1;", "prize 1 1 1 1 0;", "prize 1 1 1 1 100001;",
            "weigh 3 0 1;", "weigh 0 4 1;", "weigh 0 0 0;", "weigh 0 0 501;", "claim 3 1;", "claim 0 10000;", "buy 3 0 1;",
            "buy 0 2 1;", "buy 0 0 0;", "buy 0 0 100;"};
        for (String text : bad) {
            fails(States.busy(), "rule 1; " + text, 2, 8, Due.BAD, 1);
        }
        fails(States.busy(), "claim 0 101;", 3, 0, Due.STATE, 0);
        fails(States.busy(), " claim 1 1;", 3, 1, Due.STATE, 0);
        fails(States.busy(), "buy 1 0 99;", 3, 0, Due.STATE, 0);
        fails(States.busy(), "buy 0 0 99;", 3, 0, Due.FULL, 0);
        fails(States.crowded(), "come 0;", 3, 0, Due.FULL, 0);
        fails(States.crowded(), "prize 1 1 1 1 1;", 3, 0, Due.FULL, 0);
        fails(States.crowded(), "buy 0 0 2;", 3, 0, Due.STATE, 0);
        fails(States.crowded(), "come 10000;", 2, 0, Due.BAD, 0);
        fails("come1;".repeat(7), 3, 36, Due.FULL, 6);
    }

    /** "Its depth is 1 for the kind 1, and 2 for the others (these have the error code for their cause)"; "(NONE for the kind 1)" */
    private static void theDepthAndTheCause() {
        TicketScales x = new TicketScales();
        Due.run(x, "rule ?");
        Due.due("depth of the kind 1", x.failure(2), 1);
        Due.due("cause of the kind 1", x.failure(3), Due.NONE);
        Due.run(x, "rule 4;");
        Due.due("depth of the kind 2", x.failure(2), 2);
        Due.due("cause of the kind 2", x.failure(3), Due.BAD);
        Due.run(x, "come 0;claim 0 0;");
        Due.due("depth of the kind 3", x.failure(2), 2);
        Due.due("cause of the kind 3", x.failure(3), Due.STATE);
        Due.run(x, "prize 1 1 0 1 1;come 9;buy 0 0 1;");
        Due.due("depth of the kind 3", x.failure(2), 2);
        Due.due("cause of the kind 3", x.failure(3), Due.FULL);
        Due.run(x, "?");
        Due.due("depth of the kind 1 again", x.failure(2), 1);
        Due.due("cause of the kind 1 again", x.failure(3), Due.NONE);
    }

    /** "4 the number of commands that had been run without a failure before it" */
    private static void commandsAheadOfTheFailure() {
        for (int commands = 0; commands <= 22; commands++) {
            grammar("rule1;".repeat(commands) + "!", 6 * commands, commands);
            fails("rule1;".repeat(commands) + "rule4;", 2, 6 * commands, Due.BAD, commands);
        }
    }

    /** "If a program fails, nothing that it has done stays (but the failure)." */
    private static void nothingStays() {
        String work = "kind 0 100 0;scale 1 1;rule 3;come 1;prize 1 1 1 1 1;weigh 1 0 9;claim 2 300;buy 0 0 1;";
        String[] ends = {"rule 4;", "buy 2 0 9;buy 0 0 99;", "undo;", "rule", "rule 01;", "come 1;come 1;come 1;"};
        for (String end : ends) {
            Supplier<TicketScales> typed = () -> {
                TicketScales x = States.busy();
                Due.type(x, work + end);
                return x;
            };
            Supplier<TicketScales> run = States.behind(typed, "run");
            Due.isTrue("it fails: " + end, run.get().failure(4) >= 8);
            Due.isTrue("nothing stays: " + end, View.ofAll(typed).equals(View.ofAll(run)));
        }
        TicketScales x = States.busy();
        Due.due("without the end it does not fail", Due.run(x, work), 8);
    }

    /** "and the text becomes empty; if it fails, the text is kept" */
    private static void theTextIsKeptOrEmpty() {
        TicketScales x = new TicketScales();
        Due.due("run", Due.run(x, "claim 0 0;"), -1000);
        Due.due("kept", x.count(13), 10);
        Due.due("run again", x.run(), -1000);
        Due.failure(x, "the same", 2, 0, Due.BAD, 0);
        x.come(0);
        Due.due("run again", x.run(), -1000);
        Due.failure(x, "another cause", 3, 0, Due.STATE, 0);
        x.setScale(1000, 0);
        x.setKind(0, 100, 0);
        x.setRule(2);
        Due.due("weigh", x.weigh(0, 0, 3, 0), 4);
        Due.due("reading", x.customer(0, 3), 0);
        Due.due("run at last", x.run(), 1);
        Due.due("empty", x.count(13), 0);
        Due.due("run of nothing", x.run(), 0);
        Due.due("nothing is kept", x.count(7), 0);
        Due.run(x, "rule");
        Due.due("more can be appended", x.append('2'), 5);
        Due.due("more can be appended", x.append(';'), 6);
        Due.due("run", x.run(), 1);
        Due.due("rule", x.count(3), 2);
    }

    /** "this is one action" */
    private static void oneAction() {
        TicketScales x = new TicketScales();
        for (int i = 0; i < 5; i++) {
            x.setFee(10 + i);
        }
        Due.due("run", Due.run(x, "rule1;rule2;rule3;come1;come2;come3;kind0 100 0;"), 7);
        Due.due("states", x.count(12), 5);
        Due.due("undo()", x.undo(), 4);
        Due.due("rule", x.count(3), 0);
        Due.due("customers", x.count(5), 0);
        Due.due("fee", x.count(4), 14);
        for (int i = 3; i >= 0; i--) {
            Due.due("undo()", x.undo(), i);
            Due.due("fee", x.count(4), 10 + i);
        }
        Due.due("undo() of no more", x.undo(), Due.STATE);
    }

    /** "a part of the latest failure"; "NONE if there was no failure yet"; "INVALID_ARGUMENT if what is out of range" */
    private static void theLatestFailure() {
        TicketScales x = new TicketScales();
        for (int what = 0; what < 5; what++) {
            Due.due("no failure yet", x.failure(what), Due.NONE);
        }
        Due.due("failure(-1)", x.failure(-1), Due.BAD);
        Due.due("failure(5)", x.failure(5), Due.BAD);
        Due.due("run", Due.run(x, "rule 1;"), 1);
        x.setRule(4);
        Due.due("a call that is refused is no failure of a program", x.failure(0), Due.NONE);
        Due.due("run", Due.run(x, "rule 1;rule 2;  rule 9;"), -1016);
        Due.failure(x, "the first one", 2, 16, Due.BAD, 2);
        x.clearText();
        x.setFee(0);
        x.take(0);
        x.restore(0);
        x.undo();
        Due.due("run", Due.run(x, "rule 1;"), 1);
        Due.failure(x, "still the first one", 2, 16, Due.BAD, 2);
        Due.due("run", Due.run(x, "come"), -1004);
        Due.failure(x, "the second one", 1, 4, Due.NONE, 0);
        Due.due("failure(-1)", x.failure(-1), Due.BAD);
        Due.due("failure(5)", x.failure(5), Due.BAD);
    }
}
