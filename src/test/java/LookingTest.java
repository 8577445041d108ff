/** Promises 22 to 25: looking at numbers, kinds, customers and prizes. */
public final class LookingTest {
    private LookingTest() {
    }

    public static void main(String[] args) {
        promise22Count();
        promise23Kind();
        promise24Customer();
        promise25Prize();
        nothingChanges();
        Due.end();
    }

    private static TicketScales some() {
        TicketScales x = new TicketScales();
        x.setScale(200, 70);
        x.setBias(-30);
        x.setRule(2);
        x.setFee(17);
        x.come(100);
        x.come(200);
        x.come(300);
        x.addPrize(3, 40, 9, 100, 90);
        x.addPrize(4, 50, 8, 1000, 90);
        x.setKind(1, 2000, 20);
        x.weigh(0, 1, 100, 1500);
        x.weigh(2, 0, 7, 0);
        x.buy(1, 0, 3);
        x.take(1);
        Due.type(x, "hello");
        return x;
    }

    private static void promise22Count() {
        TicketScales x = some();
        // 100 tickets are read as 201400; 102 of 1980 could be so little.
        int[] due = {200, 70, -30, 2, 17, 3, 2, 2, 1, 699, 16, 1, 5, 5};
        for (int what = 0; what < due.length; what++) {
            Due.due("count(" + what + ")", x.count(what), due[what]);
        }
        Due.due("count(-1)", x.count(-1), Due.BAD);
        Due.due("count(14)", x.count(14), Due.BAD);
        Due.due("count(MIN)", x.count(Integer.MIN_VALUE), Due.BAD);
        x.take(0);
        Due.due("both snapshots", x.count(11), 2);
        x.setRule(0);
        x.weigh(0, 0, 300, -2900);
        Due.due("a gift below 0", x.count(8), -2);
    }

    private static void promise23Kind() {
        TicketScales x = some();
        Due.due("kind(1, 0)", x.kind(1, 0), 2000);
        Due.due("kind(1, 1)", x.kind(1, 1), 20);
        Due.due("kind(3, 0)", x.kind(3, 0), 1000);
        Due.due("kind(0, 1)", x.kind(0, 1), 10);
        Due.due("kind(-1, 0)", x.kind(-1, 0), Due.BAD);
        Due.due("kind(4, 0)", x.kind(4, 0), Due.BAD);
        Due.due("kind(0, -1)", x.kind(0, -1), Due.BAD);
        Due.due("kind(0, 2)", x.kind(0, 2), Due.BAD);
    }

    private static void promise24Customer() {
        TicketScales x = some();
        int[] due = {201, 1, 100, 201400, 101};
        for (int what = 0; what < due.length; what++) {
            Due.due("customer(0, " + what + ")", x.customer(0, what), due[what]);
        }
        Due.due("customer(1, 0)", x.customer(1, 0), 191);
        for (int what = 1; what < due.length; what++) {
            Due.due("customer(1, " + what + ")", x.customer(1, what), Due.NONE);
        }
        Due.due("customer(-1, 0)", x.customer(-1, 0), Due.BAD);
        Due.due("customer(3, 0)", x.customer(3, 0), Due.BAD);
        Due.due("customer(0, -1)", x.customer(0, -1), Due.BAD);
        Due.due("customer(0, 5)", x.customer(0, 5), Due.BAD);
        Due.due("customer(1, 5) without a weighing", x.customer(1, 5), Due.BAD);
        Due.due("customer(MAX, 0)", x.customer(Integer.MAX_VALUE, 0), Due.BAD);
        x.setKind(1, 3000, 0);
        x.setScale(7, 0);
        Due.due("the kept reading stays", x.customer(0, 3), 201400);
        Due.due("the kept guess stays", x.customer(0, 4), 101);
    }

    private static void promise25Prize() {
        TicketScales x = some();
        int[] due = {3, 40, 8, 100, 90, 20, 1};
        for (int what = 0; what < due.length; what++) {
            Due.due("prize(0, " + what + ")", x.prize(0, what), due[what]);
        }
        Due.due("prize(1, 2)", x.prize(1, 2), 8);
        Due.due("prize(-1, 0)", x.prize(-1, 0), Due.BAD);
        Due.due("prize(2, 0)", x.prize(2, 0), Due.BAD);
        Due.due("prize(0, -1)", x.prize(0, -1), Due.BAD);
        Due.due("prize(0, 7)", x.prize(0, 7), Due.BAD);
    }

    private static void nothingChanges() {
        TicketScales x = some();
        for (int i = 0; i < 14; i++) {
            x.count(i);
            x.kind(i, 0);
            x.customer(i, 1);
            x.prize(i, 1);
        }
        Due.due("history", x.count(12), 5);
        Due.due("undo()", x.undo(), 4);
        Due.due("the snapshot is undone first", x.count(11), 0);
    }
}
