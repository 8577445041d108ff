/** The edges that 'Tickets', 'Scale' and 'Guesses' name, and promises 3 and 26 to 33; the sentences stand at the tests. */
public final class TicketEdgesTest {
    private TicketEdgesTest() {
    }

    public static void main(String[] args) {
        fourKinds();
        bothEndsOfTheSpread();
        bundlesOfOneAndOfFiveHundred();
        atFirst();
        theBiasBecomesTheNearestOne();
        ofTwoEquallyNearTheGreater();
        belowZeroIsRead();
        theEndsOfLoads();
        theBiasIsInTheReading();
        aReadingOfLessThanNothing();
        everyBiasUpToTheLimit();
        oddSteps();
        noTicketsAtAll();
        readingsBetweenTheSteps();
        noCountBetween();
        countsWithoutGaps();
        theGreatestReading();
        ofTwoEquallyNearTheSmaller();
        onlyAllowedOnesAreGuessed();
        halfIsRoundedDown();
        Due.end();
    }

    private static TicketScales with(int weight, int spread, int step, int limit) {
        TicketScales x = new TicketScales();
        x.setKind(0, weight, spread);
        x.setScale(step, limit);
        return x;
    }

    private static void allowed(TicketScales x, int reading, int least, int greatest) {
        Due.due("least of " + reading, x.allowed(reading, 0, 0), least);
        Due.due("greatest of " + reading, x.allowed(reading, 0, 1), greatest);
        Due.due("number of " + reading, x.allowed(reading, 0, 2), least < 0 ? 0 : greatest - least + 1);
    }

    private static void noneAllowed(TicketScales x, int reading) {
        allowed(x, reading, Due.NONE, Due.NONE);
        for (int rule = 0; rule < 4; rule++) {
            Due.due("guess of " + reading + " by " + rule, x.guess(reading, 0, rule), Due.NONE);
        }
    }

    /** "There are 4 kinds of tickets, numbered from 0." Each has numbers of its own. */
    private static void fourKinds() {
        TicketScales x = new TicketScales();
        for (int kind = 0; kind < 4; kind++) {
            Due.due("setKind " + kind, x.setKind(kind, 100 + kind, kind), 1000);
        }
        for (int kind = 0; kind < 4; kind++) {
            Due.due("weight of " + kind, x.kind(kind, 0), 100 + kind);
            Due.due("spread of " + kind, x.kind(kind, 1), kind);
        }
        Due.due("a fifth", x.setKind(4, 100, 0), Due.BAD);
        Due.due("a fifth's weight", x.kind(4, 0), Due.BAD);
    }

    /** "one ticket weighs between weight - spread and weight + spread, both included" */
    private static void bothEndsOfTheSpread() {
        int[][] kinds = {{100, 50}, {1000, 10}, {5000, 50}, {100, 0}, {777, 1}};
        for (int[] kind : kinds) {
            TicketScales x = with(kind[0], kind[1], 1, 0);
            int[] counts = {1, 2, 5};
            for (int count : counts) {
                int lightest = count * (kind[0] - kind[1]);
                int heaviest = count * (kind[0] + kind[1]);
                Due.isTrue("the lightest " + count, x.allowed(lightest, 0, 1) >= count);
                Due.isTrue("lighter than " + count, x.allowed(lightest - 1, 0, 1) < count);
                Due.isTrue("the heaviest " + count, x.allowed(heaviest, 0, 0) <= count && x.allowed(heaviest, 0, 0) > 0);
                int beyond = x.allowed(heaviest + 1, 0, 0);
                Due.isTrue("heavier than " + count, beyond == Due.NONE || beyond > count);
            }
        }
    }

    /** "A bundle is 1 to 500 tickets of one kind." */
    private static void bundlesOfOneAndOfFiveHundred() {
        TicketScales x = new TicketScales();
        x.come(0);
        Due.due("one ticket", x.weigh(0, 0, 1, 0), 1);
        Due.due("500 tickets", x.weigh(0, 0, 500, 0), 500);
        Due.due("no ticket", x.weigh(0, 0, 0, 0), Due.BAD);
        Due.due("501 tickets", x.weigh(0, 0, 501, 0), Due.BAD);
        Due.due("points", x.customer(0, 0), 501);
    }

    /** "(at first 1000)", "(at first 10)", "(at first 100)", "(at first 50)", "(at first 0)", "At first rule 0 is in use." */
    private static void atFirst() {
        TicketScales x = new TicketScales();
        for (int kind = 0; kind < 4; kind++) {
            Due.due("weight", x.kind(kind, 0), 1000);
            Due.due("spread", x.kind(kind, 1), 10);
        }
        Due.due("step", x.count(0), 100);
        Due.due("limit", x.count(1), 50);
        Due.due("bias", x.count(2), 0);
        Due.due("rule", x.count(3), 0);
        x.come(0);
        Due.due("rule 0 guesses", x.weigh(0, 0, 300, -2900), 297);
    }

    /** "a bias beyond the limit becomes the nearest one that is not" */
    private static void theBiasBecomesTheNearestOne() {
        int[][] rows = {{50, 49, 49}, {50, 50, 50}, {50, 51, 50}, {50, 0, 0}, {-50, 49, -49}, {-50, 50, -50}, {-50, 51, -50},
            {-50, 0, 0}, {0, 0, 0}, {2000, 1999, 1999}, {-2000, 1999, -1999}, {-2000, 0, 0}};
        for (int[] row : rows) {
            TicketScales x = new TicketScales();
            x.setScale(100, 2000);
            x.setBias(row[0]);
            Due.due("bias " + row[0] + " with the limit " + row[1], x.setScale(100, row[1]), row[2]);
            Due.due("bias then", x.count(2), row[2]);
            Due.due("limit then", x.count(1), row[1]);
        }
    }

    /** "it reads the multiple of the step nearest to x, of two that are equally near the greater one" */
    private static void ofTwoEquallyNearTheGreater() {
        int[] steps = {2, 4, 100, 998, 1000};
        for (int step : steps) {
            TicketScales x = with(1000, 10, step, 0);
            for (int multiple = 0; multiple <= 3 * step; multiple += step) {
                Due.due("below the middle", x.read(multiple + step / 2 - 1), multiple);
                Due.due("in the middle", x.read(multiple + step / 2), multiple + step);
                Due.due("above the middle", x.read(multiple + step / 2 + 1), multiple + step);
            }
        }
        int[] oddSteps = {1, 3, 99, 999};
        for (int step : oddSteps) {
            TicketScales x = with(1000, 10, step, 0);
            for (int multiple = 0; multiple <= 3 * step; multiple += step) {
                Due.due("below the middle", x.read(multiple + step / 2), multiple);
                Due.due("above the middle", x.read(multiple + step / 2 + 1), multiple + step);
                Due.due("on the multiple", x.read(multiple), multiple);
            }
        }
    }

    /** "and 0 if this is below 0" */
    private static void belowZeroIsRead() {
        int[] steps = {1, 2, 3, 99, 100, 1000};
        for (int step : steps) {
            TicketScales x = with(1000, 10, step, 0);
            int[] loads = {-1, -2, -step / 2, -step / 2 - 1, -step, -step - 1, -2 * step, -4999, -5000};
            for (int load : loads) {
                Due.due("step " + step + ": read(" + load + ")", x.read(load), 0);
            }
        }
    }

    /** read(): "-5000 to 3000000", "to which no bias is added" */
    private static void theEndsOfLoads() {
        TicketScales x = with(1000, 10, 999, 2000);
        x.setBias(2000);
        Due.due("the greatest load", x.read(3000000), 2999997);
        Due.due("beyond it", x.read(3000001), Due.BAD);
        Due.due("the least load", x.read(-5000), 0);
        Due.due("below it", x.read(-5001), Due.BAD);
        Due.due("no bias is added", x.read(0), 0);
        x.setScale(1000, 2000);
        Due.due("the greatest load", x.read(3000000), 3000000);
        Due.due("the last one that is rounded up", x.read(2999500), 3000000);
        Due.due("the last one that is rounded down", x.read(2999499), 2999000);
    }

    private static int readingOf(TicketScales x, int count, int deviation) {
        Due.isTrue("weighed", x.weigh(0, 0, count, deviation) >= 0);
        return x.customer(0, 3);
    }

    /** "The reading of a bundle is that for the load of its true weight plus the bias." */
    private static void theBiasIsInTheReading() {
        TicketScales x = with(5000, 50, 1, 2000);
        x.come(0);
        Due.due("no bias", readingOf(x, 500, 25000), 2525000);
        x.setBias(2000);
        Due.due("the greatest bias", readingOf(x, 500, 25000), 2527000);
        Due.due("with the least deviation", readingOf(x, 500, -25000), 2477000);
        x.setBias(-2000);
        Due.due("the least bias", readingOf(x, 500, 25000), 2523000);
        x.setScale(1000, 2000);
        x.setBias(499);
        Due.due("just not the next one", readingOf(x, 1, 0), 5000);
        x.setBias(500);
        Due.due("just the next one", readingOf(x, 1, 0), 6000);
        x.setBias(-500);
        Due.due("just still the same", readingOf(x, 1, 0), 5000);
        x.setBias(-501);
        Due.due("just the one before", readingOf(x, 1, 0), 4000);
    }

    /** "For a load x (which can be below 0)" */
    private static void aReadingOfLessThanNothing() {
        TicketScales x = with(100, 50, 1, 2000);
        x.come(7);
        x.setBias(-2000);
        Due.due("the lightest ticket with the least bias", readingOf(x, 1, -50), 0);
        Due.due("points", x.customer(0, 0), 7);
        Due.due("guess", x.customer(0, 4), 0);
        x.setBias(-100);
        Due.due("nothing is left", readingOf(x, 1, 0), 0);
        Due.due("1 is left", readingOf(x, 1, 1), 1);
        // 0 tickets with the bias 0 up to 40 tickets of 50 with the bias -2000.
        allowed(x, 0, 0, 40);
        x.setScale(1, 1999);
        allowed(x, 0, 0, 39);
    }

    /** "if some n tickets of this kind, with some bias from -limit to limit, have this reading" */
    private static void everyBiasUpToTheLimit() {
        TicketScales x = with(1000, 0, 1, 200);
        allowed(x, 3000, 3, 3);
        allowed(x, 3200, 3, 3);
        noneAllowed(x, 3201);
        allowed(x, 2800, 3, 3);
        noneAllowed(x, 2799);
        x.setBias(200);
        allowed(x, 2800, 3, 3);
        x.setScale(1, 500);
        allowed(x, 3499, 3, 3);
        allowed(x, 3500, 3, 4);
        allowed(x, 3501, 4, 4);
        x.setScale(1, 0);
        allowed(x, 3000, 3, 3);
        noneAllowed(x, 3001);
        noneAllowed(x, 2999);
        // Loads from 2750 to 3249 have the reading 3000 with the step 500.
        x.setScale(500, 0);
        x.setKind(0, 1083, 0);
        allowed(x, 3000, 3, 3);
        x.setKind(0, 1084, 0);
        noneAllowed(x, 3000);
        x.setScale(500, 2);
        noneAllowed(x, 3000);
        x.setScale(500, 3);
        allowed(x, 3000, 3, 3);
        x.setKind(0, 917, 0);
        x.setScale(500, 0);
        allowed(x, 3000, 3, 3);
        x.setKind(0, 916, 0);
        noneAllowed(x, 3000);
        x.setScale(500, 1);
        noneAllowed(x, 3000);
        x.setScale(500, 2);
        allowed(x, 3000, 3, 3);
    }

    /** With an odd step no load is in the middle: as many loads below a multiple are read as it as above. */
    private static void oddSteps() {
        int[] steps = {3, 7, 99, 499};
        for (int step : steps) {
            int half = step / 2;
            int reading = 10 * step;
            int[] weights = {reading - half - 1, reading - half, reading, reading + half, reading + half + 1};
            boolean[] isAllowed = {false, true, true, true, false};
            for (int i = 0; i < weights.length; i++) {
                if (weights[i] >= 100 && weights[i] <= 5000) {
                    TicketScales x = with(weights[i], 0, step, 0);
                    Due.due("step " + step + ", weight " + weights[i], x.allowed(reading, 0, 2), isAllowed[i] ? 1 : 0);
                    Due.due("step " + step + ": read(" + weights[i] + ")", x.read(weights[i]) == reading ? 1 : 0, isAllowed[i] ? 1 : 0);
                }
            }
        }
        TicketScales x = with(100, 0, 99, 0);
        allowed(x, 0, 0, 0);
        x.setScale(199, 0);
        allowed(x, 0, 0, 0);
        x.setScale(201, 0);
        allowed(x, 0, 0, 1);
    }

    /** "a count n (0 or more)" */
    private static void noTicketsAtAll() {
        TicketScales x = with(1000, 10, 100, 50);
        allowed(x, 0, 0, 0);
        // A bias of 50 alone is read as 100.
        allowed(x, 100, 0, 0);
        noneAllowed(x, 200);
        x.setScale(100, 49);
        noneAllowed(x, 100);
        x.setScale(1, 30);
        allowed(x, 30, 0, 0);
        noneAllowed(x, 31);
        x.setScale(1, 0);
        allowed(x, 0, 0, 0);
        noneAllowed(x, 1);
        x.setScale(1000, 2000);
        x.setKind(0, 5000, 50);
        allowed(x, 2000, 0, 0);
        allowed(x, 3000, 1, 1);
    }

    /** A reading is a multiple of the step, so others allow nothing. */
    private static void readingsBetweenTheSteps() {
        TicketScales x = with(100, 50, 100, 2000);
        noneAllowed(x, 1);
        noneAllowed(x, 99);
        noneAllowed(x, 101);
        noneAllowed(x, 5050);
        noneAllowed(x, 2999999);
        x.setScale(7, 2000);
        noneAllowed(x, 3000000);
        Due.isTrue("a multiple of 7", x.allowed(2999997, 0, 2) > 0);
    }

    /** "there can be none" */
    private static void noCountBetween() {
        TicketScales x = with(1000, 10, 100, 50);
        // One ticket weighs up to 1010, and so is read up to 1100; two weigh from 1980, and are read from 1900.
        allowed(x, 1100, 1, 1);
        noneAllowed(x, 1200);
        noneAllowed(x, 1800);
        allowed(x, 1900, 2, 2);
        noneAllowed(x, 800);
        allowed(x, 900, 1, 1);
    }

    /** "All allowed counts lie from a least one to a greatest one without gaps." */
    private static void countsWithoutGaps() {
        TicketScales x = with(100, 0, 1000, 0);
        allowed(x, 0, 0, 4);
        allowed(x, 1000, 5, 14);
        allowed(x, 2000, 15, 24);
        allowed(x, 3000000, 29995, 30004);
        x.setKind(0, 100, 50);
        allowed(x, 1000, 4, 29);
        x.setKind(0, 101, 0);
        allowed(x, 0, 0, 4);
        allowed(x, 1000, 5, 14);
        x.setKind(0, 125, 0);
        allowed(x, 0, 0, 3);
        allowed(x, 1000, 4, 11);
    }

    /** "reading: 0 to 3000000": counts are not bounded by what a bundle or a text can have. */
    private static void theGreatestReading() {
        TicketScales x = with(100, 50, 1, 2000);
        allowed(x, 3000000, 19987, 60040);
        Due.due("rule 0", x.guess(3000000, 0, 0), 30000);
        Due.due("rule 1", x.guess(3000000, 0, 1), 19987);
        Due.due("rule 2", x.guess(3000000, 0, 2), 60040);
        Due.due("rule 3", x.guess(3000000, 0, 3), 40013);
        Due.due("beyond", x.allowed(3000001, 0, 0), Due.BAD);
        Due.due("beyond", x.guess(3000001, 0, 0), Due.BAD);
        x.setKind(0, 5000, 0);
        x.setScale(1, 0);
        allowed(x, 3000000, 600, 600);
        noneAllowed(x, 2999999);
    }

    /** Rule 0: "nearest to the reading, of two that are equally near the smaller one" */
    private static void ofTwoEquallyNearTheSmaller() {
        TicketScales x = with(1000, 0, 1, 700);
        for (int count = 0; count < 5; count++) {
            Due.due("below the middle", x.guess(1000 * count + 499, 0, 0), count);
            Due.due("in the middle", x.guess(1000 * count + 500, 0, 0), count);
            Due.due("above the middle", x.guess(1000 * count + 501, 0, 0), count + 1);
        }
        x.setKind(0, 101, 0);
        Due.due("below the middle of 101", x.guess(50, 0, 0), 0);
        Due.due("above the middle of 101", x.guess(51, 0, 0), 1);
        Due.due("below the middle of 202 and 303", x.guess(252, 0, 0), 2);
        Due.due("above the middle of 202 and 303", x.guess(253, 0, 0), 3);
    }

    /** "A rule guesses one of the allowed counts": the nearest of these, though another one is as near or nearer. */
    private static void onlyAllowedOnesAreGuessed() {
        TicketScales x = with(100, 50, 1, 0);
        // No tickets weigh 0 and are as near to 50 as one, but only one ticket can weigh 50.
        allowed(x, 50, 1, 1);
        Due.due("0 is not allowed", x.guess(50, 0, 0), 1);
        noneAllowed(x, 49);
        x.come(0);
        Due.due("weigh", x.weigh(0, 0, 1, -50), 1);
        x.setScale(1, 1);
        allowed(x, 49, 1, 1);
        Due.due("0 is nearer, but not allowed", x.guess(49, 0, 0), 1);
    }

    /** Rule 3: "divided by 2, rounded down" */
    private static void halfIsRoundedDown() {
        TicketScales x = with(100, 0, 1000, 0);
        Due.due("half of 0 and 4", x.guess(0, 0, 3), 2);
        Due.due("half of 5 and 14", x.guess(1000, 0, 3), 9);
        Due.due("half of 15 and 24", x.guess(2000, 0, 3), 19);
        x.setKind(0, 125, 0);
        Due.due("half of 0 and 3", x.guess(0, 0, 3), 1);
        x.setKind(0, 400, 0);
        Due.due("half of 0 and 1", x.guess(0, 0, 3), 0);
    }
}
