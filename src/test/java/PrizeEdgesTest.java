/** The edges that 'Prizes' names, and promises 11 to 14, 34 and 35; the sentences stand at the tests. */
public final class PrizeEdgesTest {
    private PrizeEdgesTest() {
    }

    public static void main(String[] args) {
        atMostSix();
        inTheOrderInWhichTheyWereAdded();
        theOnlyOneIsRemoved();
        theLeastAndTheGreatest();
        soldWeightAtFirst();
        allPointsAndAllPieces();
        onePointAndOnePieceLess();
        pointsAreLookedAtFirst();
        atLeastTheMark();
        asLongAsAtLeastTheMark();
        dividedAndRoundedDown();
        toNinetyNineAtMost();
        theStockIsLookedAtAheadOfBoxes();
        aBoxOfManyPieces();
        soldOutNow();
        soldOutForTheFirstTime();
        soldOutAtMost999();
        soldOutWithWhatHasBeenSold();
        shopWithoutPrizesOrPoints();
        shopByAscendingPrices();
        shopAsPointsAndStockAllow();
        shopWithoutAnyBoxes();
        Due.end();
    }

    private static TicketScales with(int points, int price, int weight, int stock, int mark, int box) {
        TicketScales x = new TicketScales();
        x.come(points);
        x.addPrize(price, weight, stock, mark, box);
        return x;
    }

    private static void prize(TicketScales x, String when, int stock, int sold, int boxes) {
        Due.due(when + ": stock", x.prize(0, 2), stock);
        Due.due(when + ": sold weight", x.prize(0, 5), sold);
        Due.due(when + ": boxes", x.prize(0, 6), boxes);
        Due.due(when + ": all stocks", x.count(10), stock);
    }

    /** "There are at most 6 prizes"; "CAPACITY_EXCEEDED if there are 6" */
    private static void atMostSix() {
        TicketScales x = new TicketScales();
        for (int i = 0; i < 6; i++) {
            Due.due("addPrize", x.addPrize(1, 1, i, 1, 1), i);
            Due.due("prizes", x.count(6), i + 1);
        }
        Due.due("a seventh", x.addPrize(1, 1, 1, 1, 1), Due.FULL);
        Due.due("prizes", x.count(6), 6);
        Due.due("removePrize(2)", x.removePrize(2), 2);
        Due.due("room again", x.addPrize(1, 1, 50, 1, 1), 5);
        Due.due("and no more", x.addPrize(1, 1, 50, 1, 1), Due.FULL);
        x.undo();
        x.undo();
        Due.due("six again", x.addPrize(1, 1, 50, 1, 1), Due.FULL);
    }

    /** "numbered from 0 in the order in which they were added"; "the numbers of those behind become smaller by 1" */
    private static void inTheOrderInWhichTheyWereAdded() {
        for (int gone = 0; gone < 6; gone++) {
            TicketScales x = new TicketScales();
            x.come(9999);
            for (int i = 0; i < 6; i++) {
                x.addPrize(i + 1, 10 * i + 10, 20 + i, 25 + i, 30 + i);
                x.buy(0, i, 2);
            }
            int[][] before = rows(x);
            Due.due("removePrize(" + gone + ")", x.removePrize(gone), before[gone][2]);
            for (int i = 0; i < 5; i++) {
                for (int what = 0; what < 7; what++) {
                    Due.due("prize(" + i + ", " + what + ")", x.prize(i, what), before[i < gone ? i : i + 1][what]);
                }
            }
            Due.due("a sixth", x.prize(5, 0), Due.BAD);
            Due.due("prizes", x.count(6), 5);
            int stocks = x.prize(0, 2) + x.prize(1, 2) + x.prize(2, 2) + x.prize(3, 2) + x.prize(4, 2);
            Due.due("stocks", x.count(10), stocks);
            Due.due("addPrize", x.addPrize(9, 8, 7, 6, 5), 5);
            Due.due("stocks then", x.count(10), stocks + 7);
            Due.due("the one ahead of it", x.prize(4, 0), before[gone < 5 ? 5 : 4][0]);
            int[] due = {9, 8, 7, 6, 5, 0, 0};
            for (int what = 0; what < 7; what++) {
                Due.due("prize(5, " + what + ")", x.prize(5, what), due[what]);
            }
        }
    }

    private static int[][] rows(TicketScales x) {
        int[][] rows = new int[6][7];
        for (int i = 0; i < 6; i++) {
            for (int what = 0; what < 7; what++) {
                rows[i][what] = x.prize(i, what);
            }
        }
        return rows;
    }

    private static void theOnlyOneIsRemoved() {
        TicketScales x = with(1, 1, 1, 0, 1, 1);
        Due.due("an empty stock", x.removePrize(0), 0);
        Due.due("none is there", x.removePrize(0), Due.BAD);
        Due.due("prizes", x.count(6), 0);
        Due.due("the next one", x.addPrize(1, 1, 99, 1, 1), 0);
        Due.due("a full stock", x.removePrize(0), 99);
    }

    /** "a price of 1 to 5000 points, a weight of 1 to 20000, a stock of 0 to 99 pieces, a mark of 1 to 100000, and a box ..." */
    private static void theLeastAndTheGreatest() {
        TicketScales x = new TicketScales();
        x.addPrize(1, 1, 0, 1, 1);
        x.addPrize(5000, 20000, 99, 100000, 100000);
        int[][] due = {{1, 1, 0, 1, 1, 0, 0}, {5000, 20000, 99, 100000, 100000, 0, 0}};
        for (int prize = 0; prize < 2; prize++) {
            for (int what = 0; what < 7; what++) {
                Due.due("prize(" + prize + ", " + what + ")", x.prize(prize, what), due[prize][what]);
            }
        }
        Due.due("stocks", x.count(10), 99);
        x.come(9999);
        Due.due("a piece of the dearest", x.buy(0, 1, 1), 4999);
        Due.due("its sold weight", x.prize(1, 5), 20000);
        Due.due("a piece of an empty stock", x.buy(0, 0, 1), Due.FULL);
    }

    /** "The sold weight of a prize is 0 at first." */
    private static void soldWeightAtFirst() {
        TicketScales x = with(50, 1, 7, 9, 100, 7);
        prize(x, "at first", 9, 0, 0);
        x.buy(0, 0, 1);
        prize(x, "one is sold", 8, 7, 0);
        x.setPrice(0, 2);
        prize(x, "with another price", 8, 7, 0);
        x.buy(0, 0, 2);
        prize(x, "three are sold", 6, 21, 0);
    }

    /** "fewer points than pieces times the price", "fewer pieces": just as many are enough. */
    private static void allPointsAndAllPieces() {
        TicketScales x = with(60, 20, 5, 3, 100000, 1);
        Due.due("all points for all pieces", x.buy(0, 0, 3), 0);
        Due.due("points", x.customer(0, 0), 0);
        prize(x, "all are sold", 0, 15, 0);
        x = with(9999, 101, 5, 99, 100000, 1);
        Due.due("99 pieces", x.buy(0, 0, 99), 0);
        prize(x, "99 are sold", 0, 495, 0);
        x = with(1, 1, 1, 1, 100000, 1);
        Due.due("one point for one piece", x.buy(0, 0, 1), 0);
        Due.due("no point", x.buy(0, 0, 1), Due.STATE);
    }

    private static void onePointAndOnePieceLess() {
        TicketScales x = with(59, 20, 5, 3, 100000, 1);
        Due.due("a point is lacking", x.buy(0, 0, 3), Due.STATE);
        Due.due("points", x.customer(0, 0), 59);
        prize(x, "none is sold", 3, 0, 0);
        Due.due("two can be bought", x.buy(0, 0, 2), 19);
        Due.due("another one can't", x.buy(0, 0, 1), Due.STATE);
        x = with(9998, 101, 5, 99, 100000, 1);
        Due.due("a point is lacking for 99", x.buy(0, 0, 99), Due.STATE);
        x = with(80, 20, 5, 3, 100000, 1);
        Due.due("a piece is lacking", x.buy(0, 0, 4), Due.FULL);
        Due.due("points", x.customer(0, 0), 80);
        prize(x, "none is sold", 3, 0, 0);
        x = with(9999, 5000, 20000, 99, 100000, 1);
        Due.due("far too dear", x.buy(0, 0, 99), Due.STATE);
        x = with(9999, 1, 1, 98, 100000, 1);
        Due.due("a piece is lacking of 99", x.buy(0, 0, 99), Due.FULL);
    }

    /** ILLEGAL_STATE is listed ahead of CAPACITY_EXCEEDED, INVALID_ARGUMENT ahead of both. */
    private static void pointsAreLookedAtFirst() {
        TicketScales x = with(19, 20, 5, 0, 100000, 1);
        Due.due("neither a point nor a piece", x.buy(0, 0, 1), Due.STATE);
        Due.due("nor a customer", x.buy(1, 0, 1), Due.BAD);
        Due.due("nor a prize", x.buy(0, 1, 1), Due.BAD);
        Due.due("nor such pieces", x.buy(0, 0, 100), Due.BAD);
        x.setPrice(0, 19);
        Due.due("no piece", x.buy(0, 0, 1), Due.FULL);
    }

    /** "as long as the sold weight is at least the mark" */
    private static void atLeastTheMark() {
        TicketScales x = with(100, 1, 50, 10, 101, 50);
        x.buy(0, 0, 2);
        prize(x, "1 below the mark", 8, 100, 0);
        x.buy(0, 0, 1);
        prize(x, "above the mark", 8, 49, 1);
        x = with(100, 1, 50, 10, 100, 50);
        x.buy(0, 0, 1);
        prize(x, "below the mark", 9, 50, 0);
        x.buy(0, 0, 1);
        prize(x, "at the mark", 9, 0, 1);
        x = with(100, 1, 50, 10, 99, 50);
        x.buy(0, 0, 2);
        prize(x, "1 above the mark", 9, 1, 1);
        x = with(100, 1, 1, 10, 1, 1);
        x.buy(0, 0, 10);
        prize(x, "at the least mark each time", 10, 0, 10);
    }

    /** "then, as long as ...": several boxes by one purchase, what is left over stays for the next one. */
    private static void asLongAsAtLeastTheMark() {
        TicketScales x = with(100, 1, 50, 20, 120, 50);
        x.buy(0, 0, 12);
        prize(x, "600 are 5 times the mark", 13, 0, 5);
        x.buy(0, 0, 11);
        prize(x, "550 are 4 times the mark and 70", 6, 70, 9);
        x.buy(0, 0, 1);
        prize(x, "70 and 50 are the mark", 6, 0, 10);
        x = with(100, 1, 20000, 99, 1, 20000);
        x.buy(0, 0, 1);
        prize(x, "a box for each milligram", 99, 0, 20000);
        x.buy(0, 0, 99);
        prize(x, "boxes for each milligram", 99, 0, 2000000);
    }

    /** "the box divided by the weight of a piece, rounded down": also if this is none. */
    private static void dividedAndRoundedDown() {
        int[] boxes = {1, 49, 50, 51, 99, 100, 149, 150};
        int[] pieces = {0, 0, 1, 1, 1, 2, 2, 3};
        for (int i = 0; i < boxes.length; i++) {
            TicketScales x = with(100, 1, 50, 10, 50, boxes[i]);
            x.buy(0, 0, 1);
            prize(x, "a box of " + boxes[i], 9 + pieces[i], 0, 1);
            x.buy(0, 0, 2);
            prize(x, "boxes of " + boxes[i], 7 + 3 * pieces[i], 0, 3);
        }
    }

    /** "but to 99 at most" */
    private static void toNinetyNineAtMost() {
        int[] boxes = {10, 11, 12, 100000};
        int[] stocks = {98, 99, 99, 99};
        for (int i = 0; i < boxes.length; i++) {
            TicketScales x = with(100, 1, 1, 89, 1, boxes[i]);
            x.buy(0, 0, 1);
            prize(x, "a box of " + boxes[i], stocks[i], 0, 1);
        }
        TicketScales x = with(9999, 1, 1, 99, 100, 5);
        x.buy(0, 0, 99);
        prize(x, "all are sold", 0, 99, 0);
        Due.due("none is left", x.buy(0, 0, 1), Due.FULL);
    }

    /** "CAPACITY_EXCEEDED if the stock has fewer pieces": boxes come only "then". */
    private static void theStockIsLookedAtAheadOfBoxes() {
        TicketScales x = with(100, 1, 10, 4, 10, 100);
        Due.due("more than the stock", x.buy(0, 0, 5), Due.FULL);
        prize(x, "nothing has come", 4, 0, 0);
        Due.due("the stock", x.buy(0, 0, 4), 96);
        prize(x, "four boxes have come", 40, 0, 4);
    }

    /** As many boxes, and as many pieces in them, as there can be. */
    private static void aBoxOfManyPieces() {
        TicketScales x = with(100, 1, 1, 99, 1, 100000);
        x.buy(0, 0, 99);
        prize(x, "99 boxes of 100000", 99, 0, 99);
        x = with(100, 1, 20000, 99, 1, 100000);
        x.buy(0, 0, 99);
        prize(x, "1980000 boxes of 5", 99, 0, 1980000);
        x = with(100, 1, 1000, 99, 1, 100000);
        x.buy(0, 0, 99);
        prize(x, "99000 boxes of 100", 99, 0, 99000);
        x = with(100, 1, 216, 99, 1, 100000);
        x.buy(0, 0, 99);
        prize(x, "21384 boxes of 462", 99, 0, 21384);
    }

    private static void soldOut(int weight, int stock, int mark, int box, int due) {
        TicketScales x = with(0, 1, weight, stock, mark, box);
        Due.due("soldOut of " + weight + ", " + stock + ", " + mark + ", " + box, x.soldOut(0), due);
        prize(x, "the prize stays", stock, 0, 0);
    }

    /** "(0 if it is 0 now)" */
    private static void soldOutNow() {
        soldOut(1, 0, 1, 100000, 0);
        soldOut(20000, 0, 100000, 1, 0);
        TicketScales x = with(9, 1, 1, 3, 100, 1);
        x.buy(0, 0, 3);
        Due.due("all are sold", x.soldOut(0), 0);
    }

    /** "the number of pieces behind which the stock is 0 for the first time"; "(the stock is looked at behind this)" */
    private static void soldOutForTheFirstTime() {
        soldOut(1, 1, 2, 1, 1);
        soldOut(1, 99, 100, 1, 99);
        // The last piece reaches the mark, so a box is there before the stock is looked at.
        soldOut(1, 1, 1, 1, Due.NONE);
        soldOut(1, 99, 99, 1, 100);
        soldOut(1, 5, 5, 4, 9);
        soldOut(1, 5, 5, 5, Due.NONE);
        soldOut(1, 5, 6, 99, 5);
        soldOut(2, 3, 3, 3, 7);
        soldOut(2, 3, 3, 1, 3);
    }

    /** "at most 999"; "NONE if there is none" */
    private static void soldOutAtMost999() {
        // A box of m - 1 pieces comes behind each m pieces: it is the end behind m (stock - m + 2) - 1 of them.
        soldOut(1, 68, 20, 19, 999);
        soldOut(1, 88, 13, 12, Due.NONE);
        soldOut(1, 99, 11, 10, 989);
        soldOut(1, 99, 10, 9, 909);
        soldOut(1, 99, 50, 49, Due.NONE);
        soldOut(1, 99, 99, 98, 197);
        soldOut(1, 99, 1, 1, Due.NONE);
    }

    /** The sold weight that is there counts. */
    private static void soldOutWithWhatHasBeenSold() {
        TicketScales x = with(99, 1, 10, 5, 30, 10);
        int[] due = {7, 6, 5, 4, 3, 2, 1, 0};
        for (int i = 0; i < due.length; i++) {
            Due.due("soldOut behind " + i, x.soldOut(0), due[i]);
            if (i < 7) {
                Due.due("buy", x.buy(0, 0, 1), 98 - i);
            }
        }
        Due.due("stock", x.prize(0, 2), 0);
    }

    private static void shop(TicketScales x, String when, int pieces, int points, int weight) {
        Due.due(when + ": pieces", x.shop(0, 0), pieces);
        Due.due(when + ": points that are left", x.shop(0, 1), points);
        Due.due(when + ": weight", x.shop(0, 2), weight);
    }

    private static void shopWithoutPrizesOrPoints() {
        TicketScales x = new TicketScales();
        x.come(77);
        shop(x, "no prizes", 0, 77, 0);
        x.addPrize(1, 9, 0, 1, 1);
        shop(x, "an empty stock", 0, 77, 0);
        x.addPrize(78, 9, 9, 1, 1);
        shop(x, "too dear", 0, 77, 0);
        x.setPrice(1, 77);
        shop(x, "just not too dear", 1, 0, 9);
        x.buy(0, 1, 1);
        shop(x, "no points", 0, 0, 0);
    }

    /** "the prizes are gone through by ascending prices, of the same price by ascending numbers" */
    private static void shopByAscendingPrices() {
        TicketScales x = new TicketScales();
        x.come(21);
        for (int i = 0; i < 6; i++) {
            x.addPrize(6 - i, 1 << i, 1, 100000, 1);
        }
        shop(x, "all", 6, 0, 63);
        int[][] orders = {{1, 2, 3, 4, 5, 6}, {6, 5, 4, 3, 2, 1}, {7, 7, 7, 7, 7, 7}, {8, 7, 8, 7, 8, 7}, {9, 20, 9, 3, 9, 20}, {21, 22, 22, 22, 22, 22},
            {22, 22, 22, 22, 22, 21}, {11, 11, 10, 10, 11, 11}};
        int[][] dues = {{6, 0, 63}, {6, 0, 63}, {3, 0, 7}, {3, 0, 42}, {3, 0, 13}, {1, 0, 1}, {1, 0, 32}, {2, 1, 12}};
        for (int i = 0; i < orders.length; i++) {
            for (int prize = 0; prize < 6; prize++) {
                x.setPrice(prize, orders[i][prize]);
            }
            shop(x, "order " + i, dues[i][0], dues[i][1], dues[i][2]);
        }
    }

    /** "as many pieces are taken as the stock ... and the points that are left allow" */
    private static void shopAsPointsAndStockAllow() {
        TicketScales x = with(100, 10, 3, 9, 100000, 1);
        shop(x, "the stock ends", 9, 10, 27);
        x.addPrize(11, 5, 9, 100000, 1);
        shop(x, "10 are not 11", 9, 10, 27);
        x.setPrice(1, 10);
        shop(x, "10 are 10", 10, 0, 32);
        x.setPrice(0, 11);
        shop(x, "the other one first", 9, 10, 45);
        x.setPrice(1, 30);
        x.setPrice(0, 30);
        shop(x, "the points end", 3, 10, 9);
        x.come(0);
        Due.due("another customer", x.shop(1, 0), 0);
        Due.due("another customer", x.shop(1, 1), 0);
    }

    /** "(without any boxes)"; nothing is bought by it. */
    private static void shopWithoutAnyBoxes() {
        TicketScales x = with(100, 1, 10, 4, 10, 100);
        shop(x, "no boxes", 4, 96, 40);
        prize(x, "nothing is bought", 4, 0, 0);
        Due.due("points", x.customer(0, 0), 100);
        x = new TicketScales();
        x.come(9999);
        for (int i = 0; i < 6; i++) {
            x.addPrize(1, 20000, 99, 1, 1);
        }
        shop(x, "the heaviest", 594, 9405, 11880000);
    }
}
