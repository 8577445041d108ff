/** Promises 7 to 10: customers, weighings and quarrels. */
public final class CustomersTest {
    private CustomersTest() {
    }

    public static void main(String[] args) {
        promise7Come();
        promise8Leave();
        promise9Weigh();
        promise9Arguments();
        promise10Claim();
        promise10ClaimedByWhatIsNow();
        promise10PointsStop();
        promise10Errors();
        Due.end();
    }

    private static void promise7Come() {
        TicketScales x = new TicketScales();
        Due.due("come(-1)", x.come(-1), Due.BAD);
        Due.due("come(10000)", x.come(10000), Due.BAD);
        Due.due("history behind errors", x.count(12), 0);
        for (int i = 0; i < 6; i++) {
            Due.due("come " + i, x.come(i == 5 ? 9999 : i), i);
        }
        Due.due("points", x.customer(5, 0), 9999);
        Due.due("points of 3", x.customer(3, 0), 3);
        Due.due("no kept weighing", x.customer(5, 1), Due.NONE);
        Due.due("come(0) with 6", x.come(0), Due.FULL);
        Due.due("come(-1) with 6", x.come(-1), Due.BAD);
        Due.due("customers", x.count(5), 6);
        Due.due("history", x.count(12), 5);
        x.undo();
        Due.due("undone", x.count(5), 5);
        Due.due("come(1) again", x.come(1), 5);
        Due.due("points of the new one", x.customer(5, 0), 1);
    }

    private static void promise8Leave() {
        TicketScales x = new TicketScales();
        for (int i = 0; i < 6; i++) {
            x.come(10 * i);
        }
        x.weigh(1, 1, 11, 0);
        x.weigh(3, 2, 33, 0);
        Due.due("leave(-1)", x.leave(-1), Due.BAD);
        Due.due("leave(6)", x.leave(6), Due.BAD);
        Due.due("leave(1)", x.leave(1), 21);
        Due.due("customers", x.count(5), 5);
        Due.due("kept", x.count(7), 1);
        int[] points = {0, 20, 63, 40, 50};
        for (int i = 0; i < points.length; i++) {
            Due.due("points of " + i, x.customer(i, 0), points[i]);
        }
        Due.due("the kept weighing moves along", x.customer(2, 2), 33);
        Due.due("nothing kept for 1", x.customer(1, 2), Due.NONE);
        Due.due("customer(5, 0)", x.customer(5, 0), Due.BAD);
        Due.due("all points", x.count(9), 173);
        Due.due("leave(5)", x.leave(5), Due.BAD);
        Due.due("come(7)", x.come(7), 5);
        Due.due("nothing kept for the new one", x.customer(5, 1), Due.NONE);
        Due.due("leave(5) last", x.leave(5), 7);
        Due.due("leave(2)", x.leave(2), 63);
        Due.due("kept", x.count(7), 0);
        x.undo();
        Due.due("undone: kept", x.customer(2, 2), 33);
        Due.due("the gift stays", x.count(8), 0);
    }

    private static void promise9Weigh() {
        TicketScales x = new TicketScales();
        x.come(50);
        Due.due("weigh", x.weigh(0, 0, 37, 120), 37);
        Due.due("reading", x.customer(0, 3), 37100);
        Due.due("points", x.customer(0, 0), 87);
        x.setKind(2, 500, 50);
        x.setScale(1000, 2000);
        x.setBias(2000);
        x.setRule(2);
        // 500 * 500 + 25000 + 2000 is read as it is; at most (277000 + 499 + 2000) / 450 tickets.
        Due.due("weigh with the greatest deviation", x.weigh(0, 2, 500, 25000), 621);
        Due.due("kept kind", x.customer(0, 1), 2);
        Due.due("kept count", x.customer(0, 2), 500);
        Due.due("kept reading", x.customer(0, 3), 277000);
        Due.due("kept guess", x.customer(0, 4), 621);
        Due.due("gift", x.count(8), 121);
        Due.due("points then", x.customer(0, 0), 708);
        x.setBias(-2000);
        x.setRule(1);
        Due.due("weigh of nothing to see", x.weigh(0, 2, 1, -50), 0);
        Due.due("reading 0", x.customer(0, 3), 0);
        Due.due("guess 0", x.customer(0, 4), 0);
        Due.due("gift then", x.count(8), 120);
        Due.due("one is kept", x.count(7), 1);
        x.undo();
        Due.due("undone: kept reading", x.customer(0, 3), 277000);
        Due.due("undone: gift", x.count(8), 121);
    }

    private static void promise9Arguments() {
        TicketScales x = new TicketScales();
        x.come(0);
        x.setKind(1, 100, 50);
        int[][] bad = {{-1, 0, 1, 0}, {1, 0, 1, 0}, {0, -1, 1, 0}, {0, 4, 1, 0}, {0, 0, 0, 0}, {0, 0, 501, 0},
            {0, 0, 1, 11}, {0, 0, 1, -11}, {0, 0, 500, 5001}, {0, 0, 500, -5001}, {0, 1, 2, 101},
            {0, 0, Integer.MAX_VALUE, 0}, {0, 0, Integer.MIN_VALUE, 0}, {0, 0, 1, Integer.MIN_VALUE}, {0, 0, 1, Integer.MAX_VALUE}};
        for (int[] row : bad) {
            String call = "weigh(" + row[0] + ", " + row[1] + ", " + row[2] + ", " + row[3] + ")";
            Due.due(call, x.weigh(row[0], row[1], row[2], row[3]), Due.BAD);
        }
        Due.due("history behind errors", x.count(12), 2);
        Due.due("nothing kept behind errors", x.count(7), 0);
        Due.due("weigh(0, 0, 500, 5000)", x.weigh(0, 0, 500, 5000), 505);
        Due.due("weigh(0, 0, 500, -5000)", x.weigh(0, 0, 500, -5000), 495);
        Due.due("weigh(0, 1, 2, 100)", x.weigh(0, 1, 2, 100), 3);
        Due.due("gift", x.count(8), 1);
    }

    private static void promise10Claim() {
        TicketScales x = new TicketScales();
        x.come(0);
        x.setFee(9);
        // 199 to 204 tickets of 990 to 1010 can weigh so; 202 are guessed.
        Due.due("weigh", x.weigh(0, 0, 200, 2000), 202);
        Due.due("least", x.allowed(202000, 0, 0), 200);
        Due.due("greatest", x.allowed(202000, 0, 1), 204);
        Due.due("claim of the true count", x.claim(0, 200), 1);
        Due.due("points", x.customer(0, 0), 200);
        Due.due("gift", x.count(8), 0);
        Due.due("not kept", x.customer(0, 4), Due.NONE);
        Due.due("no second claim", x.claim(0, 201), Due.STATE);
        x.weigh(0, 0, 200, 2000);
        Due.due("a nearer claim", x.claim(0, 201), 1);
        Due.due("the true count is given", x.customer(0, 0), 400);
        x.weigh(0, 0, 200, 2000);
        Due.due("a farther claim", x.claim(0, 203), 2);
        Due.due("the fee is paid", x.customer(0, 0), 591);
        Due.due("gift without the fee", x.count(8), 0);
        x.weigh(0, 0, 202, -100);
        Due.due("guess is true", x.customer(0, 4), 202);
        Due.due("claim beside a true guess", x.claim(0, 203), 2);
        Due.due("points less the fee", x.customer(0, 0), 784);
        // The true count is 202, the guess 201 and the claim 203: as far away is not nearer.
        x.weigh(0, 0, 202, -1100);
        Due.due("guess", x.customer(0, 4), 201);
        Due.due("a claim as far away", x.claim(0, 203), 2);
        Due.due("points", x.customer(0, 0), 977);
        x.weigh(0, 0, 200, 2000);
        Due.due("points before a rejected claim", x.customer(0, 0), 1179);
        Due.due("claim below the least one", x.claim(0, 199), 0);
        Due.due("rejected: points", x.customer(0, 0), 1179);
        Due.due("rejected: gift", x.count(8), 2);
        Due.due("rejected: not kept", x.count(7), 0);
        Due.due("rejected: an action", x.undo(), 4);
        Due.due("undone: kept", x.customer(0, 4), 202);
        Due.due("claim above the greatest one", x.claim(0, 205), 0);
        x.undo();
        Due.due("claim of the greatest one", x.claim(0, 204), 2);
    }

    private static void promise10ClaimedByWhatIsNow() {
        TicketScales x = new TicketScales();
        x.come(1000);
        x.weigh(0, 0, 200, 2000);
        x.setKind(0, 1000, 0);
        Due.due("the kind is as it is now", x.claim(0, 200), 0);
        x.undo();
        Due.due("claim that is allowed now", x.claim(0, 203), 0);
        x.undo();
        x.setScale(70, 2000);
        Due.due("the step is as it is now", x.claim(0, 203), 0);
        x.undo();
        x.setScale(100, 2000);
        Due.due("the limit is as it is now", x.claim(0, 200), 1);
        Due.due("points", x.customer(0, 0), 1200);
    }

    private static void promise10PointsStop() {
        TicketScales x = new TicketScales();
        x.come(0);
        x.addPrize(1, 1, 99, 100000, 1);
        x.addPrize(1, 1, 99, 100000, 1);
        x.addPrize(1, 1, 99, 100000, 1);
        x.setFee(100);
        Due.due("weigh", x.weigh(0, 0, 198, 1980), 200);
        x.buy(0, 0, 99);
        Due.due("buy", x.buy(0, 1, 99), 2);
        Due.due("buy one more", x.buy(0, 2, 1), 1);
        Due.due("a nearer claim", x.claim(0, 198), 1);
        Due.due("the points stop at 0", x.customer(0, 0), 0);
        Due.due("the gift does not", x.count(8), 0);
        x.undo();
        Due.due("a farther claim", x.claim(0, 201), 2);
        Due.due("the points stop at 0 with the fee too", x.customer(0, 0), 0);
        Due.due("the gift does not", x.count(8), 0);
        // The guess is below the true count, so the claim gives points, from which the fee is paid.
        x.weigh(0, 0, 300, -2900);
        Due.due("points", x.customer(0, 0), 297);
        x.buy(0, 2, 98);
        Due.due("all but a few are spent", x.buy(0, 0, 99), Due.FULL);
        Due.due("a farther claim below", x.claim(0, 296), 2);
        Due.due("points behind the fee", x.customer(0, 0), 297 - 98 + 3 - 100);
        x.undo();
        x.setFee(0);
        Due.due("a farther claim without a fee", x.claim(0, 296), 2);
        Due.due("points", x.customer(0, 0), 297 - 98 + 3);
    }

    private static void promise10Errors() {
        TicketScales x = new TicketScales();
        x.come(0);
        Due.due("claim(-1, 0)", x.claim(-1, 0), Due.BAD);
        Due.due("claim(1, 0)", x.claim(1, 0), Due.BAD);
        Due.due("claim(0, -1)", x.claim(0, -1), Due.BAD);
        Due.due("claim(0, 10000)", x.claim(0, 10000), Due.BAD);
        Due.due("nothing is kept", x.claim(0, 0), Due.STATE);
        x.weigh(0, 0, 10, 0);
        Due.due("count is the guess", x.claim(0, 10), Due.STATE);
        Due.due("out of range goes ahead", x.claim(0, 10000), Due.BAD);
        Due.due("still kept", x.customer(0, 4), 10);
        Due.due("history", x.count(12), 2);
        Due.due("claim(0, 9999)", x.claim(0, 9999), 0);
        x.undo();
        Due.due("claim(0, 0)", x.claim(0, 0), 0);
    }
}
