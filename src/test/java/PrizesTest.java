/** Promises 11 to 14: prizes and boxes. */
public final class PrizesTest {
    private PrizesTest() {
    }

    public static void main(String[] args) {
        promise11AddPrize();
        promise12RemovePrize();
        promise13SetPrice();
        promise14Buy();
        promise14Boxes();
        promise14Errors();
        Due.end();
    }

    private static void promise11AddPrize() {
        TicketScales x = new TicketScales();
        int[][] bad = {{0, 1, 0, 1, 1}, {5001, 1, 0, 1, 1}, {1, 0, 0, 1, 1}, {1, 20001, 0, 1, 1}, {1, 1, -1, 1, 1},
            {1, 1, 100, 1, 1}, {1, 1, 0, 0, 1}, {1, 1, 0, 100001, 1}, {1, 1, 0, 1, 0}, {1, 1, 0, 1, 100001}};
        for (int[] row : bad) {
            String call = "addPrize(" + row[0] + ", " + row[1] + ", " + row[2] + ", " + row[3] + ", " + row[4] + ")";
            Due.due(call, x.addPrize(row[0], row[1], row[2], row[3], row[4]), Due.BAD);
        }
        Due.due("history behind errors", x.count(12), 0);
        Due.due("the least", x.addPrize(1, 1, 0, 1, 1), 0);
        Due.due("the greatest", x.addPrize(5000, 20000, 99, 100000, 100000), 1);
        int[] due = {5000, 20000, 99, 100000, 100000, 0, 0};
        for (int what = 0; what < due.length; what++) {
            Due.due("prize(1, " + what + ")", x.prize(1, what), due[what]);
        }
        for (int i = 2; i < 6; i++) {
            Due.due("addPrize " + i, x.addPrize(i, i, i, i, i), i);
        }
        Due.due("a seventh", x.addPrize(1, 1, 1, 1, 1), Due.FULL);
        Due.due("a seventh out of range", x.addPrize(0, 1, 1, 1, 1), Due.BAD);
        Due.due("prizes", x.count(6), 6);
        Due.due("stocks", x.count(10), 113);
        x.undo();
        Due.due("undone", x.count(6), 5);
    }

    private static void promise12RemovePrize() {
        TicketScales x = new TicketScales();
        Due.due("removePrize(0) without any", x.removePrize(0), Due.BAD);
        x.come(9999);
        for (int i = 0; i < 6; i++) {
            x.addPrize(i + 1, 10, 10 + i, 100000, 10);
        }
        x.buy(0, 3, 2);
        Due.due("removePrize(-1)", x.removePrize(-1), Due.BAD);
        Due.due("removePrize(6)", x.removePrize(6), Due.BAD);
        Due.due("removePrize(2)", x.removePrize(2), 12);
        Due.due("prizes", x.count(6), 5);
        int[] prices = {1, 2, 4, 5, 6};
        for (int i = 0; i < prices.length; i++) {
            Due.due("price of " + i, x.prize(i, 0), prices[i]);
        }
        Due.due("sold weight moves along", x.prize(2, 5), 20);
        Due.due("prize(5, 0)", x.prize(5, 0), Due.BAD);
        Due.due("removePrize(5)", x.removePrize(5), Due.BAD);
        Due.due("stocks", x.count(10), 10 + 11 + 11 + 14 + 15);
        Due.due("removePrize(4)", x.removePrize(4), 15);
        Due.due("a new one is added behind", x.addPrize(9, 9, 9, 9, 9), 4);
        Due.due("its sold weight", x.prize(4, 5), 0);
        x.undo();
        x.undo();
        Due.due("undone", x.prize(4, 0), 6);
        afterASale();
    }

    /** The last of six prizes is removed when it has been sold; the next one begins anew. */
    private static void afterASale() {
        TicketScales x = new TicketScales();
        x.come(9999);
        for (int i = 0; i < 6; i++) {
            x.addPrize(1, 10, 20, 25, 13);
        }
        x.buy(0, 5, 7);
        Due.due("boxes of the removed one", x.prize(5, 6), 2);
        Due.due("sold weight of the removed one", x.prize(5, 5), 20);
        x.removePrize(5);
        Due.due("the next one", x.addPrize(1, 10, 20, 25, 13), 5);
        Due.due("boxes of the next one", x.prize(5, 6), 0);
        Due.due("sold weight of the next one", x.prize(5, 5), 0);
    }

    private static void promise13SetPrice() {
        TicketScales x = new TicketScales();
        Due.due("setPrice(0, 1) without any", x.setPrice(0, 1), Due.BAD);
        x.addPrize(20, 1, 1, 1, 1);
        x.addPrize(30, 1, 1, 1, 1);
        Due.due("setPrice(1, 5000)", x.setPrice(1, 5000), 30);
        Due.due("setPrice(1, 1)", x.setPrice(1, 1), 5000);
        Due.due("price", x.prize(1, 0), 1);
        Due.due("price of 0", x.prize(0, 0), 20);
        Due.due("setPrice(1, 0)", x.setPrice(1, 0), Due.BAD);
        Due.due("setPrice(1, 5001)", x.setPrice(1, 5001), Due.BAD);
        Due.due("setPrice(2, 1)", x.setPrice(2, 1), Due.BAD);
        Due.due("setPrice(-1, 1)", x.setPrice(-1, 1), Due.BAD);
        Due.due("history", x.count(12), 4);
        x.undo();
        Due.due("undone", x.prize(1, 0), 5000);
    }

    private static void promise14Buy() {
        TicketScales x = new TicketScales();
        x.addPrize(20, 300, 5, 1000, 700);
        x.come(10);
        x.come(100);
        Due.due("buy(1, 0, 3)", x.buy(1, 0, 3), 40);
        Due.due("points", x.customer(1, 0), 40);
        Due.due("points of the other", x.customer(0, 0), 10);
        Due.due("stock", x.prize(0, 2), 2);
        Due.due("sold weight", x.prize(0, 5), 900);
        Due.due("boxes", x.prize(0, 6), 0);
        Due.due("buy(1, 0, 1)", x.buy(1, 0, 1), 20);
        Due.due("stock with a box", x.prize(0, 2), 3);
        Due.due("sold weight then", x.prize(0, 5), 200);
        Due.due("boxes then", x.prize(0, 6), 1);
        Due.due("all points can be paid", x.buy(1, 0, 1), 0);
        x.undo();
        x.undo();
        Due.due("undone: stock", x.prize(0, 2), 2);
        Due.due("undone: boxes", x.prize(0, 6), 0);
        Due.due("undone: points", x.customer(1, 0), 40);
    }

    private static void promise14Boxes() {
        TicketScales x = new TicketScales();
        x.come(9999);
        x.addPrize(1, 20000, 99, 1, 100000);
        x.buy(0, 0, 99);
        Due.due("a box for each milligram", x.prize(0, 6), 1980000);
        Due.due("the stock stops at 99", x.prize(0, 2), 99);
        Due.due("sold weight", x.prize(0, 5), 0);
        x.addPrize(1, 100, 10, 250, 399);
        x.buy(0, 1, 10);
        Due.due("several boxes", x.prize(1, 6), 4);
        Due.due("3 pieces of each box", x.prize(1, 2), 12);
        Due.due("nothing is left over", x.prize(1, 5), 0);
        x.addPrize(1, 500, 3, 500, 499);
        x.buy(0, 2, 3);
        Due.due("boxes without a piece", x.prize(2, 6), 3);
        Due.due("stock without a piece", x.prize(2, 2), 0);
        x.addPrize(1, 60, 3, 121, 60);
        x.buy(0, 3, 2);
        Due.due("just below the mark", x.prize(3, 5), 120);
        Due.due("no box below the mark", x.prize(3, 6), 0);
        x.addPrize(1, 60, 3, 120, 60);
        x.buy(0, 4, 2);
        Due.due("just at the mark", x.prize(4, 5), 0);
        Due.due("a box at the mark", x.prize(4, 6), 1);
        Due.due("a piece of the box", x.prize(4, 2), 2);
        x.addPrize(1, 1, 97, 1, 5);
        x.buy(0, 5, 1);
        Due.due("the stock stops at 99 again", x.prize(5, 2), 99);
    }

    private static void promise14Errors() {
        TicketScales x = new TicketScales();
        x.addPrize(20, 300, 5, 1000, 700);
        x.come(59);
        Due.due("buy(-1, 0, 1)", x.buy(-1, 0, 1), Due.BAD);
        Due.due("buy(1, 0, 1)", x.buy(1, 0, 1), Due.BAD);
        Due.due("buy(0, -1, 1)", x.buy(0, -1, 1), Due.BAD);
        Due.due("buy(0, 1, 1)", x.buy(0, 1, 1), Due.BAD);
        Due.due("buy(0, 0, 0)", x.buy(0, 0, 0), Due.BAD);
        Due.due("buy(0, 0, 100)", x.buy(0, 0, 100), Due.BAD);
        Due.due("buy(0, 0, MAX)", x.buy(0, 0, Integer.MAX_VALUE), Due.BAD);
        Due.due("too few points", x.buy(0, 0, 3), Due.STATE);
        Due.due("too few points and too small a stock", x.buy(0, 0, 6), Due.STATE);
        x.come(9999);
        Due.due("too small a stock, though a box would come", x.buy(1, 0, 6), Due.FULL);
        Due.due("history", x.count(12), 3);
        Due.due("points", x.count(9), 10058);
        Due.due("stock", x.prize(0, 2), 5);
        Due.due("the whole stock", x.buy(1, 0, 5), 9899);
    }
}
