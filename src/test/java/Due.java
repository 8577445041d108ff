/** What the tests share: answers that are compared, texts that are typed, and the end of a test. */
final class Due {
    static final int BAD = TicketScales.INVALID_ARGUMENT;
    static final int STATE = TicketScales.ILLEGAL_STATE;
    static final int FULL = TicketScales.CAPACITY_EXCEEDED;
    static final int NONE = TicketScales.NONE;

    private static final int MOST_TOLD = 40;
    private static int wrong = 0;
    private static int compared = 0;

    private Due() {
    }

    static void due(String call, long got, long want) {
        compared++;
        if (got != want) {
            wrong++;
            if (wrong <= MOST_TOLD) {
                System.out.println(call + " answered " + got + ", due is " + want);
            }
        }
    }

    static void isTrue(String what, boolean holds) {
        due(what, holds ? 1 : 0, 1);
    }

    static boolean anyWrong() {
        return wrong > 0;
    }

    /** Puts a text in place of the one that is there. */
    static void type(TicketScales x, String text) {
        x.clearText();
        for (int i = 0; i < text.length(); i++) {
            due("append in \"" + text + "\"", x.append(text.charAt(i)), i + 1);
        }
    }

    /** Types a text and runs it. */
    static int run(TicketScales x, String text) {
        type(x, text);
        return x.run();
    }

    static void failure(TicketScales x, String call, int kind, int place, int code, int commands) {
        due(call + ": kind", x.failure(0), kind);
        due(call + ": place", x.failure(1), place);
        due(call + ": depth", x.failure(2), kind == 1 ? 1 : 2);
        due(call + ": code", x.failure(3), code);
        due(call + ": commands", x.failure(4), commands);
    }

    static void end() {
        System.out.println(compared + " answers compared, " + wrong + " not as due");
        if (wrong != 0) {
            System.exit(1);
        }
    }
}
