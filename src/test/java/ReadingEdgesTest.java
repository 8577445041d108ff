/** The edges that promises 29 to 33 name: how far counts are told apart, pairs, and what rules would have given. */
public final class ReadingEdgesTest {
    private ReadingEdgesTest() {
    }

    public static void main(String[] args) {
        zeroIsTheLeastCount();
        atMost999();
        oneReadingIsEnough();
        theStepAlsoMixes();
        bestStepAsApartUpToTellsIt();
        theLimitStaysAsItIs();
        theEndsOfSteps();
        noStep();
        aOrBMayBeZero();
        togetherAtMost60();
        pairsWithSomeBias();
        noPair();
        bothKindsAreTheSame();
        nothingIsKept();
        wouldCanBeBelow();
        asTheyAreNow();
        oneIsEnoughForNone();
        theTrueCountsAreTaken();
        theSmallestNumberOfSeveral();
        nearestToZeroFromBothSides();
        Due.end();
    }

    private static TicketScales with(int weight, int spread, int step, int limit) {
        TicketScales x = new TicketScales();
        x.setKind(0, weight, spread);
        x.setScale(step, limit);
        return x;
    }

    private static void apart(int weight, int spread, int step, int limit, int due) {
        TicketScales x = with(weight, spread, step, limit);
        Due.due("apartUpTo of " + weight + ", " + spread + " with " + step + ", " + limit, x.apartUpTo(0), due);
    }

    /** "the counts 0 to n": if 0 and 1 share a reading already, n is 0. */
    private static void zeroIsTheLeastCount() {
        apart(100, 0, 1, 49, 999);
        apart(100, 0, 1, 50, 0);
        apart(100, 50, 1, 25, 0);
        apart(100, 50, 1, 24, 1);
        apart(100, 0, 1000, 0, 0);
        apart(499, 0, 1000, 0, 0);
        // 500 is read as 1000, 1000 too.
        apart(500, 0, 1000, 0, 1);
        // 2000 and 7050 less than 7900: 10 tickets are read up to 53000, 11 from 52000.
        apart(5000, 50, 1000, 2000, 10);
        apart(100, 50, 1000, 2000, 0);
    }

    /** "the greatest count n, at most 999" */
    private static void atMost999() {
        apart(1000, 0, 1, 0, 999);
        apart(1000, 0, 1000, 0, 999);
        apart(5000, 0, 1, 2000, 999);
        apart(5000, 0, 1000, 1999, 999);
        // 1999 (n + 1) - limit is above 2001 n + limit as long as n is below 999.5 - limit.
        apart(2000, 1, 1, 0, 999);
        apart(2000, 1, 1, 1, 999);
        apart(2000, 1, 1, 2, 998);
        // 1996 (n + 1) is above 1998 n up to n = 997, so 998 and 999 are not told apart.
        apart(1997, 1, 1, 0, 998);
        apart(1999, 1, 1, 0, 999);
        // Readings beyond 3000000, which allowed() does not take, are readings too: 4997 (n + 1) is above 5003 n up to n = 832.
        apart(5000, 3, 1, 0, 833);
        apart(5000, 2, 1, 0, 999);
    }

    /** "such that no reading allows two different ones": one reading is enough, be it an end of both. */
    private static void oneReadingIsEnough() {
        // 1 ticket weighs 990 to 1010; 10 weigh up to 10100, 11 from 10890: n tickets and one more, 20 n + 2 limit + 990.
        apart(1000, 10, 1, 0, 50);
        apart(1000, 10, 1, 4, 50);
        apart(1000, 10, 1, 5, 49);
        apart(1000, 10, 1, 494, 1);
        apart(1000, 10, 1, 495, 0);
    }

    /** A step lets loads share a reading that are not shared themselves. */
    private static void theStepAlsoMixes() {
        // 49490 is read as 49000 and 49500 as 50000, but 50500 as 51000 and 50490 as 50000.
        apart(1000, 10, 1000, 0, 50);
        // 55495 and 55496 are both read as 55000.
        apart(1000, 9, 1000, 0, 55);
        // 46460 is 46.51 steps, 46530 is 46.58 steps.
        apart(1000, 10, 999, 0, 46);
        apart(1000, 10, 100, 50, 40);
        apart(150, 0, 100, 0, 999);
        apart(149, 0, 100, 0, 999);
        // n tickets are n - n / 101 steps: 50 are read as 50 of these, 51 too.
        apart(100, 0, 101, 0, 50);
        apart(100, 0, 102, 0, 25);
    }

    private static boolean isApart(int weight, int spread, int step, int limit, int count) {
        return with(weight, spread, step, limit).apartUpTo(0) >= count;
    }

    /** "the greatest step of the scale ... with which the counts of a kind could be told apart up to a count" */
    private static void bestStepAsApartUpToTellsIt() {
        int[][] rows = {{1000, 10, 50, 40}, {1000, 10, 50, 41}, {100, 0, 0, 99}, {100, 0, 0, 51}, {100, 0, 0, 52}, {500, 0, 0, 1}, {700, 3, 9, 12},
            {121, 4, 38, 6}};
        for (int[] row : rows) {
            TicketScales x = with(row[0], row[1], 1, row[2]);
            int best = x.bestStep(0, row[3]);
            Due.isTrue("there is a step", best >= 1 && best <= 1000);
            Due.isTrue("the step " + best + " does", isApart(row[0], row[1], best, row[2], row[3]));
            for (int step = best + 1; step <= 1000; step++) {
                Due.isTrue("the step " + step + " does not", !isApart(row[0], row[1], step, row[2], row[3]));
            }
        }
    }

    /** "the limit staying as it is" */
    private static void theLimitStaysAsItIs() {
        TicketScales x = with(1000, 10, 100, 0);
        Due.due("with the limit 0", x.bestStep(0, 25), 1000);
        x.setScale(1, 50);
        Due.due("with the limit 50", x.bestStep(0, 45), 1000);
        Due.due("with the limit 50", x.bestStep(0, 46), Due.NONE);
        x.setScale(1, 495);
        Due.due("with the limit 495", x.bestStep(0, 1), Due.NONE);
        Due.due("with the limit 495 up to 0", x.bestStep(0, 0), 1000);
        Due.due("the step stays", x.count(0), 1);
        Due.due("the limit stays", x.count(1), 495);
    }

    /** "count: 0 to 99"; a step is 1 to 1000. */
    private static void theEndsOfSteps() {
        Due.due("0 alone", with(100, 50, 1, 2000).bestStep(0, 0), 1000);
        Due.due("the greatest step", with(5000, 0, 1, 0).bestStep(0, 99), 1000);
        // 5 tickets weigh up to 663 with a bias, 6 from 664, and wider steps that part these part no others.
        Due.due("the smallest step", with(121, 4, 7, 38).bestStep(0, 6), 1);
        Due.due("no smaller one", with(121, 4, 7, 38).bestStep(0, 7), Due.NONE);
        Due.due("count 100", with(5000, 0, 1, 0).bestStep(0, 100), Due.BAD);
        Due.due("count -1", with(5000, 0, 1, 0).bestStep(0, -1), Due.BAD);
    }

    /** "NONE if there is none" */
    private static void noStep() {
        Due.due("1 with too wide a limit", with(100, 0, 1, 50).bestStep(0, 1), Due.NONE);
        Due.due("50", with(1000, 10, 77, 0).bestStep(0, 50), 1000);
        Due.due("51", with(1000, 10, 77, 0).bestStep(0, 51), Due.NONE);
        Due.due("99", with(1000, 10, 77, 0).bestStep(0, 99), Due.NONE);
    }

    private static TicketScales pairs(int weight, int otherWeight, int step, int limit) {
        TicketScales x = new TicketScales();
        x.setKind(1, weight, 0);
        x.setKind(3, otherWeight, 0);
        x.setScale(step, limit);
        return x;
    }

    private static void mixed(TicketScales x, int reading, int number, int least, int greatest) {
        Due.due("number of " + reading, x.mixed(1, 3, reading, 0), number);
        Due.due("least of " + reading, x.mixed(1, 3, reading, 1), least);
        Due.due("greatest of " + reading, x.mixed(1, 3, reading, 2), greatest);
        Due.due("the other way round", x.mixed(3, 1, reading, 0), number);
    }

    /** "a and b being 0 or more" */
    private static void aOrBMayBeZero() {
        TicketScales x = pairs(300, 700, 1, 0);
        mixed(x, 0, 1, 0, 0);
        mixed(x, 300, 1, 1, 1);
        mixed(x, 700, 1, 1, 1);
        mixed(x, 1000, 1, 2, 2);
        mixed(x, 2100, 2, 3, 7);
        mixed(x, 900, 1, 3, 3);
        mixed(x, 1400, 1, 2, 2);
    }

    /** "together at most 60" */
    private static void togetherAtMost60() {
        TicketScales x = pairs(100, 1000, 1, 0);
        mixed(x, 6000, 7, 6, 60);
        mixed(x, 6100, 6, 7, 52);
        mixed(x, 60000, 1, 60, 60);
        mixed(x, 59100, 1, 60, 60);
        mixed(x, 60100, 0, Due.NONE, Due.NONE);
        mixed(x, 59200, 0, Due.NONE, Due.NONE);
        x = pairs(100, 100, 1, 0);
        mixed(x, 6000, 61, 60, 60);
        mixed(x, 6100, 0, Due.NONE, Due.NONE);
        x.setScale(1000, 2000);
        // Loads from 4500 to 5499, with a bias from 2500 to 7499: 25 to 60 tickets, of n these are n + 1 pairs.
        mixed(x, 5000, 61 * 62 / 2 - 25 * 26 / 2, 25, 60);
    }

    /** "with some bias from -limit to limit" */
    private static void pairsWithSomeBias() {
        TicketScales x = pairs(1000, 3000, 1, 20);
        mixed(x, 4020, 2, 2, 4);
        mixed(x, 4021, 0, Due.NONE, Due.NONE);
        mixed(x, 3980, 2, 2, 4);
        mixed(x, 3979, 0, Due.NONE, Due.NONE);
        x.setBias(20);
        mixed(x, 3980, 2, 2, 4);
        x.setKind(3, 3000, 5);
        // 1 of each weighs 3995 to 4005, 4 of the kind 1 weigh 4000.
        mixed(x, 3980, 2, 2, 4);
        mixed(x, 3979, 1, 2, 2);
        mixed(x, 3975, 1, 2, 2);
        mixed(x, 3974, 0, Due.NONE, Due.NONE);
        mixed(x, 4025, 1, 2, 2);
        mixed(x, 4026, 0, Due.NONE, Due.NONE);
    }

    /** "NONE if what is 1 or 2 and there is no such pair"; the number is 0 then. */
    private static void noPair() {
        TicketScales x = pairs(1000, 3000, 100, 20);
        mixed(x, 4000, 2, 2, 4);
        mixed(x, 4001, 0, Due.NONE, Due.NONE);
        mixed(x, 500, 0, Due.NONE, Due.NONE);
        mixed(x, 3000000, 0, Due.NONE, Due.NONE);
        mixed(x, 0, 1, 0, 0);
    }

    /** "INVALID_ARGUMENT if an argument is out of range, or both kinds are the same" */
    private static void bothKindsAreTheSame() {
        TicketScales x = pairs(1000, 1000, 100, 20);
        for (int kind = 0; kind < 4; kind++) {
            for (int what = 0; what < 3; what++) {
                Due.due("the same kind", x.mixed(kind, kind, 0, what), Due.BAD);
            }
        }
        Due.due("other kinds with the same weight", x.mixed(1, 3, 1000, 0), 2);
    }

    /** "100000 plus this sum": of no weighings it is 0. "nearest to 0, of several the one with the smallest number" */
    private static void nothingIsKept() {
        TicketScales x = new TicketScales();
        for (int rule = 0; rule < 4; rule++) {
            Due.due("nobody: would(" + rule + ")", x.would(rule), 100000);
        }
        Due.due("nobody: fairest()", x.fairest(), 0);
        x.come(5);
        x.setRule(3);
        x.setScale(7, 0);
        for (int rule = 0; rule < 4; rule++) {
            Due.due("without a weighing: would(" + rule + ")", x.would(rule), 100000);
        }
        Due.due("without a weighing: fairest()", x.fairest(), 0);
        x.setScale(100, 50);
        x.weigh(0, 0, 300, -2900);
        Due.due("with one", x.would(1), 99995);
        x.claim(0, 299);
        Due.due("behind the quarrel about it", x.would(1), 100000);
        Due.due("behind the quarrel about it: fairest()", x.fairest(), 0);
    }

    /** "what it guesses ... less the true counts": the sum can be below 0 and above. */
    private static void wouldCanBeBelow() {
        TicketScales x = with(100, 50, 1000, 2000);
        for (int i = 0; i < 6; i++) {
            x.come(0);
        }
        for (int i = 0; i < 6; i++) {
            x.weigh(i, 0, 500, -25000);
        }
        // Each is read as 25000, which (25000 - 500 - 2000) / 150 up to (25000 + 499 + 2000) / 50 tickets allow.
        Due.due("the least ones", x.would(1), 100000 + 6 * (150 - 500));
        Due.due("the greatest ones", x.would(2), 100000 + 6 * (549 - 500));
        Due.due("the nearest ones", x.would(0), 100000 + 6 * (250 - 500));
        Due.due("the middle ones", x.would(3), 100000 + 6 * (349 - 500));
        Due.due("fairest", x.fairest(), 2);
    }

    /** "with the kinds and the scale as they are now" */
    private static void asTheyAreNow() {
        TicketScales x = with(1000, 0, 100, 50);
        x.come(0);
        x.setRule(2);
        x.weigh(0, 0, 100, 0);
        Due.due("as it was", x.would(0), 100000);
        x.setKind(0, 500, 0);
        Due.due("with the kind as it is", x.would(0), 100100);
        x.setScale(100, 2000);
        Due.due("with the scale as it is", x.would(1), 100096);
        Due.due("with the scale as it is", x.would(2), 100104);
        Due.due("the kept guess does not count", x.customer(0, 4), 100);
        x.setKind(0, 100, 0);
        x.setKind(1, 1, 1);
        Due.due("with the kind as it is", x.would(0), 100900);
        x.setBias(2000);
        Due.due("nor does the bias", x.would(0), 100900);
    }

    /** "NONE if no count is allowed for one of them" */
    private static void oneIsEnoughForNone() {
        TicketScales x = new TicketScales();
        for (int i = 0; i < 3; i++) {
            x.come(0);
        }
        x.weigh(0, 0, 10, 0);
        x.weigh(1, 1, 10, 0);
        x.weigh(2, 2, 10, 0);
        for (int kind = 0; kind < 3; kind++) {
            x.setKind(kind, 3000, 0);
            for (int rule = 0; rule < 4; rule++) {
                Due.due("none for " + kind + " by " + rule, x.would(rule), Due.NONE);
            }
            Due.due("none for " + kind, x.fairest(), Due.NONE);
            x.undo();
            Due.due("all", x.would(0), 100000);
            Due.due("all", x.fairest(), 0);
        }
    }

    /** "less the true counts", not less the guesses that were made. */
    private static void theTrueCountsAreTaken() {
        TicketScales x = new TicketScales();
        x.come(0);
        Due.due("weigh", x.weigh(0, 0, 300, -2900), 297);
        Due.due("rule 0", x.would(0), 99997);
        Due.due("rule 2", x.would(2), 100000);
        Due.due("fairest", x.fairest(), 2);
    }

    /** fairest(): "of several the one with the smallest number" */
    private static void theSmallestNumberOfSeveral() {
        TicketScales x = new TicketScales();
        x.come(0);
        x.weigh(0, 0, 10, 0);
        for (int rule = 0; rule < 4; rule++) {
            Due.due("all are the same", x.would(rule), 100000);
        }
        Due.due("0 of all", x.fairest(), 0);
        // Read as 1000, which 5 to 14 tickets allow: the rules guess 10, 5, 14 and 9.
        x = with(100, 0, 1000, 0);
        x.come(0);
        int[] fairest = {1, 1, 1, 3, 3, 0, 0, 0, 2, 2};
        for (int count = 5; count <= 14; count++) {
            x.weigh(0, 0, count, 0);
            Due.due("reading of " + count, x.customer(0, 3), 1000);
            Due.due("fairest for " + count, x.fairest(), fairest[count - 5]);
        }
    }

    /** "nearest to 0": a sum below 0 is as near as one above. */
    private static void nearestToZeroFromBothSides() {
        TicketScales x = with(100, 0, 1000, 0);
        x.come(0);
        x.weigh(0, 0, 12, 0);
        // 10, 5, 14 and 9 are guessed for 12: 2 below and 2 above are equally near.
        Due.due("rule 0", x.would(0), 99998);
        Due.due("rule 2", x.would(2), 100002);
        Due.due("fairest", x.fairest(), 0);
        x.weigh(0, 0, 13, 0);
        Due.due("1 above is nearer than 3 below", x.fairest(), 2);
    }
}
