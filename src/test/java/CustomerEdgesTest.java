/** The edges that 'Customers and weighings' and 'Quarrels' name, and promises 7 to 10; the sentences stand at the tests. */
public final class CustomerEdgesTest {
    private CustomerEdgesTest() {
    }

    public static void main(String[] args) {
        atMostSix();
        inTheOrderInWhichTheyCame();
        pointsAtTheEnds();
        theFirstAndTheLastLeave();
        theOnlyOneLeaves();
        untilTheNextWeighing();
        theGiftIsAddedUp();
        theGiftStaysWhenCustomersLeave();
        noGuessIsGivenTwice();
        onlyAnotherCount();
        nothingIsKeptForOthers();
        allowedAsTheseAreNow();
        theEndsOfWhatIsAllowed();
        nearerAndNotNearer();
        pointsStopAtZero();
        theFeeAsFarAsThePointsGo();
        theFeeAsItIsNow();
        rejectedButOver();
        aClaimOfNothing();
        Due.end();
    }

    private static TicketScales with(int points, int fee) {
        TicketScales x = new TicketScales();
        x.come(points);
        x.setFee(fee);
        return x;
    }

    private static void points(TicketScales x, int customer, int due) {
        Due.due("points of " + customer, x.customer(customer, 0), due);
    }

    private static void keeps(TicketScales x, int customer, int kind, int count, int reading, int guess) {
        Due.due("kept kind of " + customer, x.customer(customer, 1), kind);
        Due.due("kept count of " + customer, x.customer(customer, 2), count);
        Due.due("kept reading of " + customer, x.customer(customer, 3), reading);
        Due.due("kept guess of " + customer, x.customer(customer, 4), guess);
    }

    private static void keepsNothing(TicketScales x, int customer) {
        keeps(x, customer, Due.NONE, Due.NONE, Due.NONE, Due.NONE);
    }

    /** "There are at most 6 customers"; "CAPACITY_EXCEEDED if there are 6" */
    private static void atMostSix() {
        TicketScales x = new TicketScales();
        for (int i = 0; i < 6; i++) {
            Due.due("come", x.come(0), i);
            Due.due("customers", x.count(5), i + 1);
        }
        Due.due("a seventh", x.come(0), Due.FULL);
        Due.due("customers", x.count(5), 6);
        x.leave(3);
        Due.due("room again", x.come(8), 5);
        Due.due("and no more", x.come(8), Due.FULL);
        x.undo();
        x.undo();
        Due.due("six again", x.come(8), Due.FULL);
    }

    /** "numbered from 0 in the order in which they came"; "the numbers of those behind become smaller by 1" */
    private static void inTheOrderInWhichTheyCame() {
        for (int gone = 0; gone < 6; gone++) {
            TicketScales x = new TicketScales();
            for (int i = 0; i < 6; i++) {
                x.come(100 * i);
                x.weigh(i, 0, 10 + i, 0);
            }
            Due.due("leave(" + gone + ")", x.leave(gone), 101 * gone + 10);
            for (int i = 0; i < 5; i++) {
                int old = i < gone ? i : i + 1;
                points(x, i, 101 * old + 10);
                keeps(x, i, 0, 10 + old, 1000 * (10 + old), 10 + old);
            }
            Due.due("a sixth", x.customer(5, 0), Due.BAD);
            Due.due("customers", x.count(5), 5);
            Due.due("kept", x.count(7), 5);
            int all = x.count(9);
            Due.due("come", x.come(3), 5);
            points(x, 5, 3);
            points(x, 4, gone < 5 ? 515 : 414);
            Due.due("all points", x.count(9), all + 3);
            keepsNothing(x, 5);
        }
    }

    /** "Each has points ... never below 0"; "points: 0 to 9999": they can become more than that. */
    private static void pointsAtTheEnds() {
        TicketScales x = new TicketScales();
        Due.due("without points", x.come(0), 0);
        Due.due("with many", x.come(9999), 1);
        points(x, 0, 0);
        points(x, 1, 9999);
        Due.due("weigh", x.weigh(1, 0, 500, 5000), 505);
        points(x, 1, 10504);
        Due.due("all", x.count(9), 10504);
        Due.due("leave", x.leave(1), 10504);
        Due.due("leave without points", x.leave(0), 0);
        Due.due("all", x.count(9), 0);
    }

    private static void theFirstAndTheLastLeave() {
        TicketScales x = new TicketScales();
        for (int i = 0; i < 6; i++) {
            x.come(i + 1);
        }
        Due.due("the last one", x.leave(5), 6);
        Due.due("nobody is there", x.leave(5), Due.BAD);
        Due.due("the first one", x.leave(0), 1);
        Due.due("the one behind", x.leave(0), 2);
        points(x, 0, 3);
        points(x, 2, 5);
        Due.due("a fourth", x.customer(3, 0), Due.BAD);
    }

    private static void theOnlyOneLeaves() {
        TicketScales x = new TicketScales();
        Due.due("nobody", x.leave(0), Due.BAD);
        x.come(4);
        Due.due("the only one", x.leave(0), 4);
        Due.due("nobody again", x.leave(0), Due.BAD);
        Due.due("customers", x.count(5), 0);
        Due.due("the next one", x.come(6), 0);
    }

    /** "The latest weighing of each customer is kept ..., until the customer's next weighing" */
    private static void untilTheNextWeighing() {
        TicketScales x = with(0, 5);
        x.come(0);
        keepsNothing(x, 0);
        x.weigh(0, 2, 7, 0);
        keeps(x, 0, 2, 7, 7000, 7);
        keepsNothing(x, 1);
        Due.due("kept", x.count(7), 1);
        x.weigh(1, 3, 9, 0);
        keeps(x, 0, 2, 7, 7000, 7);
        x.weigh(0, 1, 300, -2900);
        keeps(x, 0, 1, 300, 297100, 297);
        keeps(x, 1, 3, 9, 9000, 9);
        Due.due("kept", x.count(7), 2);
        Due.due("a weighing that is refused", x.weigh(0, 1, 0, 0), Due.BAD);
        keeps(x, 0, 1, 300, 297100, 297);
    }

    /** "The gift is what was guessed less what was true, added up over all weighings (... it can be below 0)" */
    private static void theGiftIsAddedUp() {
        TicketScales x = with(0, 5);
        Due.due("at first", x.count(8), 0);
        x.weigh(0, 0, 300, -2900);
        Due.due("below 0", x.count(8), -3);
        x.weigh(0, 0, 300, -2900);
        Due.due("more below 0", x.count(8), -6);
        x.weigh(0, 0, 200, 2000);
        Due.due("less below 0", x.count(8), -4);
        x.weigh(0, 0, 400, 4000);
        Due.due("0 again", x.count(8), 0);
        x.weigh(0, 0, 100, 1000);
        Due.due("above 0", x.count(8), 1);
    }

    /** The gift is no customer's. */
    private static void theGiftStaysWhenCustomersLeave() {
        TicketScales x = with(0, 5);
        x.weigh(0, 0, 300, -2900);
        x.leave(0);
        Due.due("gift", x.count(8), -3);
        Due.due("kept", x.count(7), 0);
        x.come(0);
        x.weigh(0, 0, 300, -2900);
        Due.due("gift", x.count(8), -6);
    }

    /** "the customer gets as many points as are guessed": also none. */
    private static void noGuessIsGivenTwice() {
        TicketScales x = with(10, 5);
        x.setKind(0, 100, 50);
        x.setScale(1000, 2000);
        x.setRule(1);
        Due.due("nothing is guessed", x.weigh(0, 0, 1, 0), 0);
        points(x, 0, 10);
        keeps(x, 0, 0, 1, 0, 0);
        Due.due("gift", x.count(8), -1);
        x.setRule(2);
        Due.due("much is guessed", x.weigh(0, 0, 1, 0), 49);
        points(x, 0, 59);
        Due.due("gift", x.count(8), 47);
        x.setRule(3);
        Due.due("half is guessed", x.weigh(0, 0, 1, 0), 24);
        points(x, 0, 83);
    }

    /** "A customer can claim another count than was guessed": "ILLEGAL_STATE if ... count is its guess" */
    private static void onlyAnotherCount() {
        TicketScales x = with(0, 5);
        x.weigh(0, 0, 200, 2000);
        Due.due("the guess itself", x.claim(0, 202), Due.STATE);
        keeps(x, 0, 0, 200, 202000, 202);
        Due.due("the true count", x.claim(0, 200), 1);
        x.weigh(0, 0, 200, 0);
        Due.due("the guess that is true", x.claim(0, 200), Due.STATE);
        keeps(x, 0, 0, 200, 200000, 200);
        x.setKind(0, 5000, 0);
        Due.due("the guess that is not allowed any more", x.claim(0, 200), Due.STATE);
    }

    /** "ILLEGAL_STATE if no weighing of the customer is kept" */
    private static void nothingIsKeptForOthers() {
        TicketScales x = with(0, 5);
        x.come(0);
        x.weigh(1, 0, 200, 2000);
        Due.due("claim of the other", x.claim(0, 200), Due.STATE);
        Due.due("claim of no count", x.claim(0, 0), Due.STATE);
        Due.due("claim", x.claim(1, 200), 1);
        Due.due("claim again", x.claim(1, 201), Due.STATE);
        x.leave(1);
        x.come(0);
        Due.due("claim of the next one", x.claim(1, 200), Due.STATE);
    }

    /** "if it is not allowed by the reading and the kind as these are now" */
    private static void allowedAsTheseAreNow() {
        int[][] settings = {{1000, 10, 100, 50}, {1000, 0, 100, 50}, {1010, 0, 100, 50}, {1000, 10, 99, 50}, {1000, 0, 100, 2000}, {5000, 10, 100, 50}};
        int[][] answers = {{0, 1, 1, 2, 2, 0}, {0, 0, 0, 0, 0, 0}, {0, 1, 0, 0, 0, 0}, {0, 0, 0, 0, 0, 0}, {0, 1, 1, 2, 2, 0}, {0, 0, 0, 0, 0, 0}};
        int[] claims = {199, 200, 201, 203, 204, 205};
        for (int i = 0; i < settings.length; i++) {
            for (int k = 0; k < claims.length; k++) {
                TicketScales x = with(0, 5);
                x.weigh(0, 0, 200, 2000);
                x.setKind(0, settings[i][0], settings[i][1]);
                x.setScale(settings[i][2], settings[i][3]);
                Due.due("setting " + i + ": claim of " + claims[k], x.claim(0, claims[k]), answers[i][k]);
            }
        }
        TicketScales x = with(0, 5);
        x.weigh(0, 0, 200, 2000);
        x.setKind(1, 5000, 0);
        x.setRule(2);
        Due.due("another kind and the rule do not matter", x.claim(0, 200), 1);
    }

    /** The least and the greatest allowed counts can be claimed, and none beside them. */
    private static void theEndsOfWhatIsAllowed() {
        int[] claims = {200, 204, 199, 205, 0, 9999};
        int[] answers = {1, 2, 0, 0, 0, 0};
        for (int i = 0; i < claims.length; i++) {
            TicketScales x = with(0, 5);
            x.weigh(0, 0, 200, 2000);
            Due.due("least", x.allowed(202000, 0, 0), 200);
            Due.due("greatest", x.allowed(202000, 0, 1), 204);
            Due.due("claim of " + claims[i], x.claim(0, claims[i]), answers[i]);
            points(x, 0, answers[i] == 0 ? 202 : answers[i] == 1 ? 200 : 195);
            Due.due("gift", x.count(8), answers[i] == 0 ? 2 : 0);
            keepsNothing(x, 0);
            Due.due("kept", x.count(7), 0);
        }
    }

    private static void claim(int count, int deviation, int guess, int claimed, int answer, int pointsThen) {
        TicketScales x = with(50, 9);
        String call = "of " + count + ", guessed " + guess + ", claimed " + claimed;
        Due.due("guess " + call, x.weigh(0, 0, count, deviation), guess);
        Due.due("claim " + call, x.claim(0, claimed), answer);
        Due.due("points " + call, x.customer(0, 0), pointsThen);
        Due.due("gift " + call, x.count(8), 0);
    }

    /** "If the claim is not nearer to the true count than the guess": as near is not nearer. */
    private static void nearerAndNotNearer() {
        // 3 too few are guessed for 300.
        claim(300, -2900, 297, 298, 1, 350);
        claim(300, -2900, 297, 300, 1, 350);
        claim(300, -2900, 297, 296, 2, 341);
        claim(300, -2900, 297, 295, 2, 341);
        // 2 too many are guessed for 200.
        claim(200, 2000, 202, 201, 1, 250);
        claim(200, 2000, 202, 203, 2, 241);
        // 1 too many is guessed for 200: 199 is as near as 201.
        claim(200, 1000, 201, 199, 2, 241);
        claim(200, 1000, 201, 200, 1, 250);
        claim(200, 1000, 201, 202, 2, 241);
        // 1 too few is guessed for 200: 201 is as near as 199.
        claim(200, -1000, 199, 201, 2, 241);
        claim(200, -1000, 199, 200, 1, 250);
        claim(200, -1000, 199, 198, 2, 241);
        // The guess is true.
        claim(200, 0, 200, 199, 2, 241);
        claim(200, 0, 200, 201, 2, 241);
    }

    /** 202 are guessed for 200; then all points but some are spent. */
    private static TicketScales spent(int left, int fee) {
        TicketScales x = new TicketScales();
        x.come(0);
        x.setFee(fee);
        x.weigh(0, 0, 200, 2000);
        x.addPrize(1, 1, 99, 100000, 1);
        x.addPrize(1, 1, 99, 100000, 1);
        x.addPrize(1, 1, 99, 100000, 1);
        int toSpend = 202 - left;
        for (int prize = 0; prize < 3; prize++) {
            int pieces = Math.min(99, toSpend);
            if (pieces > 0) {
                x.buy(0, prize, pieces);
                toSpend -= pieces;
            }
        }
        points(x, 0, left);
        return x;
    }

    /** "the customer's points (but not below 0) and the gift ... (the gift by all of it, also if the points stop at 0)" */
    private static void pointsStopAtZero() {
        int[] lefts = {0, 1, 2, 3};
        int[] dues = {0, 0, 0, 1};
        for (int i = 0; i < lefts.length; i++) {
            TicketScales x = spent(lefts[i], 5);
            Due.due("gift", x.count(8), 2);
            Due.due("claim with " + lefts[i], x.claim(0, 200), 1);
            points(x, 0, dues[i]);
            Due.due("gift with " + lefts[i], x.count(8), 0);
        }
    }

    /** "the customer also pays the fee, 0 to 100 ..., as far as the points go" */
    private static void theFeeAsFarAsThePointsGo() {
        int[][] rows = {{0, 5, 0}, {2, 5, 0}, {3, 5, 0}, {6, 5, 0}, {7, 5, 0}, {8, 5, 1}, {3, 0, 1}, {2, 0, 0}, {102, 100, 0}, {103, 100, 1}, {101, 100, 0}};
        for (int[] row : rows) {
            TicketScales x = spent(row[0], row[1]);
            Due.due("claim with " + row[0] + " and the fee " + row[1], x.claim(0, 203), 2);
            points(x, 0, row[2]);
            Due.due("the fee is no part of the gift", x.count(8), 0);
        }
        // Here the claim gives 3 points, from which the fee is paid.
        int[][] more = {{0, 5, 0}, {0, 3, 0}, {0, 2, 1}, {0, 0, 3}};
        for (int[] row : more) {
            TicketScales x = with(0, row[1]);
            x.weigh(0, 0, 300, -2900);
            x.addPrize(99, 1, 99, 100000, 1);
            Due.due("all is spent", x.buy(0, 0, 3), 0);
            Due.due("claim", x.claim(0, 296), 2);
            points(x, 0, row[2]);
        }
    }

    /** The fee that is paid is the one of the claim's time. "(at first 5)" */
    private static void theFeeAsItIsNow() {
        TicketScales x = new TicketScales();
        x.come(100);
        x.weigh(0, 0, 200, 0);
        x.claim(0, 201);
        points(x, 0, 295);
        x.setFee(100);
        x.weigh(0, 0, 200, 0);
        x.setFee(1);
        x.claim(0, 201);
        points(x, 0, 494);
        x.setFee(0);
        x.weigh(0, 0, 200, 0);
        x.claim(0, 201);
        points(x, 0, 694);
    }

    /** "In all cases, also if the claim is rejected, the weighing is no longer kept." */
    private static void rejectedButOver() {
        TicketScales x = with(0, 5);
        x.come(0);
        x.weigh(0, 0, 200, 2000);
        x.weigh(1, 0, 200, 2000);
        int history = x.count(12);
        Due.due("rejected", x.claim(0, 205), 0);
        Due.due("an action", x.count(12), Math.min(5, history + 1));
        points(x, 0, 202);
        Due.due("gift", x.count(8), 4);
        keepsNothing(x, 0);
        keeps(x, 1, 0, 200, 202000, 202);
        Due.due("kept", x.count(7), 1);
        Due.due("no second claim", x.claim(0, 200), Due.STATE);
        x.undo();
        keeps(x, 0, 0, 200, 202000, 202);
        Due.due("another claim", x.claim(0, 200), 1);
    }

    /** "count: 0 to 9999": a claim of 0 is allowed where 0 tickets are. */
    private static void aClaimOfNothing() {
        TicketScales x = with(20, 5);
        x.setKind(0, 100, 50);
        x.setScale(1000, 2000);
        x.setRule(2);
        x.weigh(0, 0, 1, 0);
        keeps(x, 0, 0, 1, 0, 49);
        Due.due("claim of 0", x.claim(0, 0), 1);
        points(x, 0, 21);
        Due.due("gift", x.count(8), 0);
        x.weigh(0, 0, 20, 0);
        keeps(x, 0, 0, 20, 2000, 89);
        Due.due("0 is as allowed there", x.allowed(2000, 0, 0), 0);
        Due.due("claim of 0", x.claim(0, 0), 1);
        points(x, 0, 41);
        aClaimOfMany();
    }

    /** A count that no bundle can have is claimed, and allowed. */
    private static void aClaimOfMany() {
        TicketScales x = with(0, 0);
        x.setKind(0, 100, 50);
        x.setScale(1, 2000);
        x.weigh(0, 0, 500, 0);
        Due.due("greatest", x.allowed(50000, 0, 1), 1040);
        Due.due("claim of more than a bundle has", x.claim(0, 1040), 2);
    }
}
