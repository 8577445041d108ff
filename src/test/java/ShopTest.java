/** Promises 34 and 35: what prizes could do. */
public final class ShopTest {
    private ShopTest() {
    }

    public static void main(String[] args) {
        promise34SoldOut();
        promise34Edges();
        promise35Shop();
        promise35Order();
        Due.end();
    }

    private static void promise34SoldOut() {
        TicketScales x = new TicketScales();
        x.addPrize(20, 300, 5, 1000, 700);
        x.addPrize(20, 50, 2, 100, 160);
        x.addPrize(7, 20000, 1, 100000, 100000);
        Due.due("soldOut(0)", x.soldOut(0), 9);
        Due.due("soldOut(1)", x.soldOut(1), Due.NONE);
        Due.due("soldOut(2)", x.soldOut(2), 1);
        Due.due("soldOut(3)", x.soldOut(3), Due.BAD);
        Due.due("soldOut(-1)", x.soldOut(-1), Due.BAD);
        x.come(9999);
        x.buy(0, 0, 3);
        Due.due("the sold weight counts", x.soldOut(0), 6);
        Due.due("stock as it was", x.prize(0, 2), 2);
        Due.due("sold weight as it was", x.prize(0, 5), 900);
        Due.due("boxes as they were", x.prize(0, 6), 0);
        Due.due("history", x.count(12), 5);
        for (int left = 5; left >= 0; left--) {
            x.buy(0, 0, 1);
            Due.due("as it was told", x.soldOut(0), left);
        }
    }

    private static void promise34Edges() {
        TicketScales x = new TicketScales();
        x.addPrize(1, 1, 0, 1, 1);
        Due.due("0 now", x.soldOut(0), 0);
        x.addPrize(1, 1, 1, 1, 1);
        Due.due("a box for each piece", x.soldOut(1), Due.NONE);
        x.addPrize(1, 2, 99, 1, 1);
        Due.due("boxes without a piece", x.soldOut(2), 99);
        // A box of 10 pieces behind each 11 pieces: 99 + 10 * 90 pieces are 999.
        x.addPrize(1, 10, 99, 110, 100);
        Due.due("the stock shrinks by 1 for 11 pieces", x.soldOut(3), 989);
        x.addPrize(1, 10, 99, 109, 100);
        Due.due("more than 999", x.soldOut(4), Due.NONE);
        looksFor(68, 20, 19, 999);
        looksFor(88, 13, 12, Due.NONE);
        for (int mark = 10; mark <= 13; mark++) {
            for (int stock = 1; stock <= 99; stock += 7) {
                int due = naiveSteps(stock, mark, 10, 1000);
                looksFor(stock, mark, 10, due <= 999 ? due : Due.NONE);
            }
        }
    }

    /** A piece weighs 1, so that the mark and the box are numbers of pieces. */
    private static void looksFor(int stock, int mark, int box, int due) {
        TicketScales x = new TicketScales();
        x.addPrize(1, 1, stock, mark, box);
        Due.due("soldOut of " + stock + " with " + mark + " and " + box, x.soldOut(0), due);
    }

    private static int naiveSteps(int stock, int mark, int box, int most) {
        int left = stock;
        int sold = 0;
        int pieces = 0;
        while (left > 0 && pieces < most) {
            left--;
            pieces++;
            sold++;
            while (sold >= mark) {
                sold -= mark;
                left = Math.min(99, left + box);
            }
        }
        return left == 0 ? pieces : most;
    }

    private static void promise35Shop() {
        TicketScales x = new TicketScales();
        x.come(500);
        Due.due("no prizes: pieces", x.shop(0, 0), 0);
        Due.due("no prizes: points", x.shop(0, 1), 500);
        Due.due("no prizes: weight", x.shop(0, 2), 0);
        x.addPrize(20, 300, 5, 1000, 700);
        x.addPrize(20, 50, 2, 100, 160);
        x.addPrize(7, 20000, 1, 100000, 100000);
        Due.due("pieces", x.shop(0, 0), 8);
        Due.due("points", x.shop(0, 1), 353);
        Due.due("weight", x.shop(0, 2), 21600);
        Due.due("shop(1, 0)", x.shop(1, 0), Due.BAD);
        Due.due("shop(-1, 0)", x.shop(-1, 0), Due.BAD);
        Due.due("shop(0, -1)", x.shop(0, -1), Due.BAD);
        Due.due("shop(0, 3)", x.shop(0, 3), Due.BAD);
        x.come(0);
        Due.due("without points: pieces", x.shop(1, 0), 0);
        Due.due("without points: points", x.shop(1, 1), 0);
        Due.due("nothing changes: stocks", x.count(10), 8);
        Due.due("nothing changes: points", x.count(9), 500);
        Due.due("nothing changes: history", x.count(12), 5);
    }

    private static void promise35Order() {
        TicketScales x = new TicketScales();
        x.come(100);
        x.addPrize(50, 1000, 9, 1, 1);
        x.addPrize(30, 100, 1, 1, 1);
        x.addPrize(30, 10, 1, 1, 1);
        x.addPrize(10, 1, 2, 1, 1);
        // 2 for 10, 1 for 30, 1 for 30 of the later number; 20 points are left.
        Due.due("pieces", x.shop(0, 0), 4);
        Due.due("points", x.shop(0, 1), 20);
        Due.due("weight", x.shop(0, 2), 112);
        x.setPrice(3, 25);
        // 2 for 25, then 1 for 30 of the smaller number alone.
        Due.due("pieces then", x.shop(0, 0), 3);
        Due.due("points then", x.shop(0, 1), 20);
        Due.due("weight then", x.shop(0, 2), 102);
        x.addPrize(20, 7, 0, 1, 1);
        x.addPrize(20, 9, 99, 1, 1);
        Due.due("an empty stock is gone by: pieces", x.shop(0, 0), 5);
        Due.due("an empty stock is gone by: weight", x.shop(0, 2), 45);
        x.removePrize(5);
        x.removePrize(1);
        Due.due("behind removals: pieces", x.shop(0, 0), 3);
        Due.due("behind removals: weight", x.shop(0, 2), 12);
    }
}
