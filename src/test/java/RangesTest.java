import java.util.HashMap;
import java.util.Map;
import java.util.function.Supplier;

/**
 * 'Errors', and the range of each argument of each call: the least and the greatest value are taken; the ones beside
 * them and the ends of int are refused. What is refused changes nothing.
 */
public final class RangesTest {
    private static final Map<Supplier<TicketScales>, String> VIEWS = new HashMap<>();
    private static final Supplier<TicketScales> NEW = TicketScales::new;
    private static final Supplier<TicketScales> BUSY = States::busy;
    private static final Supplier<TicketScales> CROWDED = States::crowded;

    private RangesTest() {
    }

    public static void main(String[] args) {
        settings();
        customers();
        deviations();
        biases();
        prizes();
        snapshotsAndTexts();
        looking();
        readings();
        whatPrizesCouldDo();
        whoIsNotThere();
        theFirstErrorIsReturned();
        noneIsReturnedBehindErrors();
        Due.end();
    }

    /** Each row of ends has the least and the greatest value of one argument; the others are as they are given. */
    private static void ranges(Supplier<TicketScales> state, String name, int[] given, int[]... ends) {
        for (int i = 0; i < ends.length; i++) {
            taken(state, name, with(given, i, ends[i][0]));
            taken(state, name, with(given, i, ends[i][1]));
            refused(state, Due.BAD, name, with(given, i, ends[i][0] - 1));
            refused(state, Due.BAD, name, with(given, i, ends[i][1] + 1));
            refused(state, Due.BAD, name, with(given, i, Integer.MIN_VALUE));
            refused(state, Due.BAD, name, with(given, i, Integer.MAX_VALUE));
        }
    }

    private static int[] with(int[] given, int place, int value) {
        int[] a = given.clone();
        a[place] = value;
        return a;
    }

    private static void taken(Supplier<TicketScales> state, String name, int... a) {
        Due.isTrue(Calls.text(name, a) + " is not refused", Calls.answer(state.get(), name, a) != Due.BAD);
    }

    private static void refused(Supplier<TicketScales> state, int code, String name, int... a) {
        String call = Calls.text(name, a);
        Due.due(call, Calls.answer(state.get(), name, a), code);
        String before = VIEWS.computeIfAbsent(state, View::ofAll);
        Due.isTrue(call + " changes nothing", View.ofAll(States.behind(state, name, a)).equals(before));
    }

    private static int[] given(int... a) {
        return a;
    }

    private static int[] from(int least, int greatest) {
        return new int[] {least, greatest};
    }

    /** Promises 2, 3, 5 and 6. */
    private static void settings() {
        ranges(BUSY, "setKind", given(1, 700, 7), from(0, 3), from(100, 5000), from(0, 50));
        ranges(BUSY, "setScale", given(7, 9), from(1, 1000), from(0, 2000));
        ranges(BUSY, "setRule", given(1), from(0, 3));
        ranges(BUSY, "setFee", given(1), from(0, 100));
        ranges(NEW, "setKind", given(1, 700, 7), from(0, 3), from(100, 5000), from(0, 50));
        ranges(NEW, "setScale", given(7, 9), from(1, 1000), from(0, 2000));
        ranges(NEW, "setRule", given(1), from(0, 3));
        ranges(NEW, "setFee", given(1), from(0, 100));
    }

    /** Promises 7 to 10. */
    private static void customers() {
        ranges(BUSY, "come", given(1), from(0, 9999));
        ranges(BUSY, "leave", given(0), from(0, 2));
        ranges(BUSY, "weigh", given(0, 1, 5, 0), from(0, 2), from(0, 3), from(1, 500));
        ranges(BUSY, "claim", given(0, 100), from(0, 2), from(0, 9999));
        ranges(CROWDED, "leave", given(0), from(0, 5));
        ranges(CROWDED, "weigh", given(0, 1, 5, 0), from(0, 5), from(0, 3), from(1, 500));
        ranges(CROWDED, "claim", given(0, 100), from(0, 5), from(0, 9999));
    }

    /** Promise 9: from minus count times the spread to count times the spread. */
    private static void deviations() {
        int[][] rows = {{0, 1}, {0, 500}, {1, 1}, {1, 500}, {20, 7}, {50, 1}, {50, 500}};
        for (int[] row : rows) {
            Supplier<TicketScales> state = States.behind(BUSY, "setKind", 3, 100, row[0]);
            int furthest = row[0] * row[1];
            taken(state, "weigh", 0, 3, row[1], furthest);
            taken(state, "weigh", 0, 3, row[1], -furthest);
            refused(state, Due.BAD, "weigh", 0, 3, row[1], furthest + 1);
            refused(state, Due.BAD, "weigh", 0, 3, row[1], -furthest - 1);
            refused(state, Due.BAD, "weigh", 0, 3, row[1], Integer.MAX_VALUE);
            refused(state, Due.BAD, "weigh", 0, 3, row[1], Integer.MIN_VALUE);
        }
    }

    /** Promise 4: from -limit to limit. */
    private static void biases() {
        int[] limits = {0, 1, 49, 2000};
        for (int limit : limits) {
            ranges(States.behind(BUSY, "setScale", 100, limit), "setBias", given(0), from(-limit, limit));
        }
    }

    /** Promises 11 to 14. */
    private static void prizes() {
        int[][] ends = {from(1, 5000), from(1, 20000), from(0, 99), from(1, 100000), from(1, 100000)};
        ranges(BUSY, "addPrize", given(2, 3, 4, 5, 6), ends);
        ranges(NEW, "addPrize", given(2, 3, 4, 5, 6), ends);
        ranges(BUSY, "removePrize", given(0), from(0, 1));
        ranges(BUSY, "setPrice", given(0, 1), from(0, 1), from(1, 5000));
        ranges(BUSY, "buy", given(0, 0, 1), from(0, 2), from(0, 1), from(1, 99));
        ranges(CROWDED, "removePrize", given(0), from(0, 5));
        ranges(CROWDED, "setPrice", given(0, 1), from(0, 5), from(1, 5000));
        ranges(CROWDED, "buy", given(0, 0, 1), from(0, 5), from(0, 5), from(1, 99));
    }

    /** Promises 15, 16, 18 and 21. */
    private static void snapshotsAndTexts() {
        ranges(BUSY, "take", given(0), from(0, 1));
        ranges(BUSY, "restore", given(0), from(0, 1));
        ranges(CROWDED, "take", given(0), from(0, 1));
        ranges(CROWDED, "restore", given(0), from(0, 1));
        ranges(BUSY, "append", given('x'), from(1, 255));
        ranges(NEW, "append", given('x'), from(1, 255));
        ranges(BUSY, "failure", given(0), from(0, 4));
        ranges(NEW, "failure", given(0), from(0, 4));
    }

    /** Promises 22 to 25. */
    private static void looking() {
        ranges(BUSY, "count", given(0), from(0, 13));
        ranges(BUSY, "kind", given(0, 0), from(0, 3), from(0, 1));
        ranges(BUSY, "customer", given(0, 0), from(0, 2), from(0, 4));
        ranges(BUSY, "prize", given(0, 0), from(0, 1), from(0, 6));
        ranges(CROWDED, "customer", given(0, 0), from(0, 5), from(0, 4));
        ranges(CROWDED, "prize", given(0, 0), from(0, 5), from(0, 6));
    }

    /** Promises 26 to 32. */
    private static void readings() {
        ranges(BUSY, "read", given(0), from(-5000, 3000000));
        ranges(BUSY, "allowed", given(0, 0, 0), from(0, 3000000), from(0, 3), from(0, 2));
        ranges(BUSY, "guess", given(0, 0, 0), from(0, 3000000), from(0, 3), from(0, 3));
        ranges(BUSY, "apartUpTo", given(0), from(0, 3));
        ranges(BUSY, "bestStep", given(0, 0), from(0, 3), from(0, 99));
        ranges(BUSY, "mixed", given(1, 2, 0, 0), from(0, 3), from(0, 3), from(0, 3000000), from(0, 2));
        ranges(BUSY, "would", given(0), from(0, 3));
        for (int kind = 0; kind < 4; kind++) {
            refused(BUSY, Due.BAD, "mixed", kind, kind, 0, 0);
        }
    }

    /** Promises 34 and 35. */
    private static void whatPrizesCouldDo() {
        ranges(BUSY, "soldOut", given(0), from(0, 1));
        ranges(BUSY, "shop", given(0, 0), from(0, 2), from(0, 2));
        ranges(CROWDED, "soldOut", given(0), from(0, 5));
        ranges(CROWDED, "shop", given(0, 0), from(0, 5), from(0, 2));
    }

    /** INVALID_ARGUMENT: also an argument that names something that does not exist. */
    private static void whoIsNotThere() {
        refused(NEW, Due.BAD, "leave", 0);
        refused(NEW, Due.BAD, "weigh", 0, 0, 1, 0);
        refused(NEW, Due.BAD, "claim", 0, 0);
        refused(NEW, Due.BAD, "customer", 0, 0);
        refused(NEW, Due.BAD, "shop", 0, 0);
        refused(NEW, Due.BAD, "removePrize", 0);
        refused(NEW, Due.BAD, "setPrice", 0, 1);
        refused(NEW, Due.BAD, "prize", 0, 0);
        refused(NEW, Due.BAD, "soldOut", 0);
        refused(States.behind(NEW, "come", 9), Due.BAD, "buy", 0, 0, 1);
        refused(States.behind(NEW, "addPrize", 1, 1, 1, 1, 1), Due.BAD, "buy", 0, 0, 1);
        Supplier<TicketScales> left = States.behind(CROWDED, "leave", 0);
        refused(left, Due.BAD, "customer", 5, 0);
        refused(left, Due.BAD, "leave", 5);
        refused(left, Due.BAD, "weigh", 5, 0, 1, 0);
        Supplier<TicketScales> removed = States.behind(CROWDED, "removePrize", 0);
        refused(removed, Due.BAD, "prize", 5, 0);
        refused(removed, Due.BAD, "removePrize", 5);
        refused(removed, Due.BAD, "soldOut", 5);
    }

    /** If several error conditions apply, the one that is listed first is returned. */
    private static void theFirstErrorIsReturned() {
        refused(CROWDED, Due.FULL, "come", 0);
        refused(CROWDED, Due.BAD, "come", -1);
        refused(CROWDED, Due.BAD, "come", 10000);
        refused(CROWDED, Due.FULL, "addPrize", 1, 1, 0, 1, 1);
        refused(CROWDED, Due.BAD, "addPrize", 0, 1, 0, 1, 1);
        refused(CROWDED, Due.BAD, "addPrize", 1, 1, 0, 1, 100001);
        refused(CROWDED, Due.FULL, "append", ' ');
        refused(CROWDED, Due.BAD, "append", 0);
        refused(CROWDED, Due.BAD, "append", 256);
        refused(CROWDED, Due.STATE, "claim", 0, 0);
        refused(CROWDED, Due.BAD, "claim", 0, 10000);
        refused(CROWDED, Due.BAD, "claim", 6, 0);
        refused(BUSY, Due.STATE, "claim", 0, 101);
        refused(BUSY, Due.STATE, "claim", 1, 5);
        refused(CROWDED, Due.STATE, "buy", 0, 0, 1);
        refused(CROWDED, Due.STATE, "buy", 0, 0, 2);
        refused(CROWDED, Due.BAD, "buy", 0, 0, 100);
        refused(BUSY, Due.STATE, "buy", 1, 0, 99);
        refused(BUSY, Due.FULL, "buy", 0, 0, 99);
        refused(BUSY, Due.BAD, "buy", 0, 0, 100);
        refused(BUSY, Due.STATE, "restore", 0);
        refused(NEW, Due.STATE, "restore", 1);
        refused(NEW, Due.BAD, "restore", 2);
        refused(NEW, Due.STATE, "undo");
    }

    /** NONE is no error, and it is returned only if no error condition applies. */
    private static void noneIsReturnedBehindErrors() {
        Due.due("none", NEW.get().failure(0), Due.NONE);
        refused(NEW, Due.BAD, "failure", 5);
        Due.due("none", BUSY.get().customer(1, 4), Due.NONE);
        refused(BUSY, Due.BAD, "customer", 1, 5);
        Due.due("none", BUSY.get().allowed(50, 0, 0), Due.NONE);
        refused(BUSY, Due.BAD, "allowed", 50, 0, 3);
        refused(BUSY, Due.BAD, "allowed", 50, 4, 0);
        Due.due("none", BUSY.get().guess(50, 0, 0), Due.NONE);
        refused(BUSY, Due.BAD, "guess", 50, 0, 4);
        refused(BUSY, Due.BAD, "guess", 50, 4, 0);
        Due.due("none", BUSY.get().mixed(0, 1, 50, 1), Due.NONE);
        refused(BUSY, Due.BAD, "mixed", 0, 1, 50, 3);
        refused(BUSY, Due.BAD, "mixed", 1, 1, 50, 1);
        Due.due("none", BUSY.get().bestStep(0, 99), Due.NONE);
        refused(BUSY, Due.BAD, "bestStep", 4, 99);
        Supplier<TicketScales> noneIsAllowed = States.behind(BUSY, "setScale", 77, 0);
        Due.due("none", noneIsAllowed.get().would(0), Due.NONE);
        refused(noneIsAllowed, Due.BAD, "would", 4);
    }
}
