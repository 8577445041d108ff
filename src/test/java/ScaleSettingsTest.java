/** Promises 1 to 6: a new object, and the settings of tickets, scale, rule and fee. */
public final class ScaleSettingsTest {
    private ScaleSettingsTest() {
    }

    public static void main(String[] args) {
        promise1NewObject();
        promise2SetKind();
        promise3SetScale();
        promise4SetBias();
        promise5SetRule();
        promise6SetFee();
        constants();
        Due.end();
    }

    private static void promise1NewObject() {
        TicketScales x = new TicketScales();
        int[] counts = {100, 50, 0, 0, 5, 0, 0, 0, 0, 0, 0, 0, 0, 0};
        for (int what = 0; what < counts.length; what++) {
            Due.due("new: count(" + what + ")", x.count(what), counts[what]);
        }
        for (int kind = 0; kind < 4; kind++) {
            Due.due("new: weight of " + kind, x.kind(kind, 0), 1000);
            Due.due("new: spread of " + kind, x.kind(kind, 1), 10);
        }
        Due.due("new: customer(0, 0)", x.customer(0, 0), Due.BAD);
        Due.due("new: prize(0, 0)", x.prize(0, 0), Due.BAD);
        for (int what = 0; what < 5; what++) {
            Due.due("new: failure(" + what + ")", x.failure(what), Due.NONE);
        }
        Due.due("new: restore(0)", x.restore(0), Due.STATE);
        Due.due("new: restore(1)", x.restore(1), Due.STATE);
        Due.due("new: undo()", x.undo(), Due.STATE);
        Due.due("new: clearText()", x.clearText(), 0);
        x.setFee(7);
        Due.due("another new object has a state of its own", new TicketScales().count(4), 5);
    }

    private static void promise2SetKind() {
        TicketScales x = new TicketScales();
        Due.due("setKind(0, 100, 0)", x.setKind(0, 100, 0), 1000);
        Due.due("setKind(0, 5000, 50)", x.setKind(0, 5000, 50), 100);
        Due.due("weight", x.kind(0, 0), 5000);
        Due.due("spread", x.kind(0, 1), 50);
        Due.due("setKind(3, 700, 7)", x.setKind(3, 700, 7), 1000);
        Due.due("weight of 3", x.kind(3, 0), 700);
        Due.due("spread of 3", x.kind(3, 1), 7);
        Due.due("weight of 2", x.kind(2, 0), 1000);
        Due.due("setKind(0, 5000, 50) again", x.setKind(0, 5000, 50), 5000);
        Due.due("history", x.count(12), 4);
        int[][] bad = {{-1, 100, 0}, {4, 100, 0}, {0, 99, 0}, {0, 5001, 0}, {0, 100, -1}, {0, 100, 51},
            {Integer.MIN_VALUE, 100, 0}, {Integer.MAX_VALUE, 100, 0}, {0, Integer.MIN_VALUE, 0}, {0, 100, Integer.MAX_VALUE}};
        for (int[] row : bad) {
            Due.due("setKind(" + row[0] + ", " + row[1] + ", " + row[2] + ")", x.setKind(row[0], row[1], row[2]), Due.BAD);
        }
        Due.due("weight behind errors", x.kind(0, 0), 5000);
        Due.due("history behind errors", x.count(12), 4);
        x.undo();
        Due.due("an action that changes nothing is recorded", x.kind(0, 0), 5000);
        x.undo();
        Due.due("undone: weight of 3", x.kind(3, 0), 1000);
        Due.due("undone: spread of 3", x.kind(3, 1), 10);
    }

    private static void promise3SetScale() {
        TicketScales x = new TicketScales();
        Due.due("setScale(1, 0)", x.setScale(1, 0), 0);
        Due.due("setScale(1000, 2000)", x.setScale(1000, 2000), 0);
        Due.due("step", x.count(0), 1000);
        Due.due("limit", x.count(1), 2000);
        x.setBias(1500);
        Due.due("setScale(7, 1500)", x.setScale(7, 1500), 1500);
        Due.due("setScale(7, 1499)", x.setScale(7, 1499), 1499);
        Due.due("bias", x.count(2), 1499);
        Due.due("a greater limit does not bring the bias back", x.setScale(7, 2000), 1499);
        x.setBias(-2000);
        Due.due("setScale(9, 3)", x.setScale(9, 3), -3);
        Due.due("bias below", x.count(2), -3);
        int[][] bad = {{0, 0}, {1001, 0}, {1, -1}, {1, 2001}, {-5, 5}, {Integer.MIN_VALUE, 1}, {1, Integer.MAX_VALUE}};
        for (int[] row : bad) {
            Due.due("setScale(" + row[0] + ", " + row[1] + ")", x.setScale(row[0], row[1]), Due.BAD);
        }
        Due.due("step behind errors", x.count(0), 9);
        Due.due("limit behind errors", x.count(1), 3);
        Due.due("undo()", x.undo(), 4);
        Due.due("undone: bias", x.count(2), -2000);
        Due.due("undone: step", x.count(0), 7);
        Due.due("undone: limit", x.count(1), 2000);
    }

    private static void promise4SetBias() {
        TicketScales x = new TicketScales();
        Due.due("setBias(50)", x.setBias(50), 0);
        Due.due("setBias(-50)", x.setBias(-50), 50);
        Due.due("setBias(51)", x.setBias(51), Due.BAD);
        Due.due("setBias(-51)", x.setBias(-51), Due.BAD);
        Due.due("setBias(MIN)", x.setBias(Integer.MIN_VALUE), Due.BAD);
        Due.due("setBias(MAX)", x.setBias(Integer.MAX_VALUE), Due.BAD);
        Due.due("bias", x.count(2), -50);
        Due.due("history", x.count(12), 2);
        x.undo();
        Due.due("undone", x.count(2), 50);
        x.setScale(100, 0);
        Due.due("limit 0: setBias(0)", x.setBias(0), 0);
        Due.due("limit 0: setBias(1)", x.setBias(1), Due.BAD);
    }

    private static void promise5SetRule() {
        TicketScales x = new TicketScales();
        Due.due("setRule(3)", x.setRule(3), 0);
        Due.due("setRule(1)", x.setRule(1), 3);
        Due.due("setRule(4)", x.setRule(4), Due.BAD);
        Due.due("setRule(-1)", x.setRule(-1), Due.BAD);
        Due.due("rule", x.count(3), 1);
        Due.due("history", x.count(12), 2);
        x.come(0);
        Due.due("the rule in use is weighed by", x.weigh(0, 0, 300, -2900), 295);
        Due.due("undo", x.undo(), 3);
        x.undo();
        x.undo();
        Due.due("undone", x.count(3), 3);
    }

    private static void promise6SetFee() {
        TicketScales x = new TicketScales();
        Due.due("setFee(100)", x.setFee(100), 5);
        Due.due("setFee(0)", x.setFee(0), 100);
        Due.due("setFee(101)", x.setFee(101), Due.BAD);
        Due.due("setFee(-1)", x.setFee(-1), Due.BAD);
        Due.due("fee", x.count(4), 0);
        Due.due("history", x.count(12), 2);
        x.undo();
        Due.due("undone", x.count(4), 100);
    }

    private static void constants() {
        Due.due("INVALID_ARGUMENT", TicketScales.INVALID_ARGUMENT, -100001);
        Due.due("ILLEGAL_STATE", TicketScales.ILLEGAL_STATE, -100002);
        Due.due("CAPACITY_EXCEEDED", TicketScales.CAPACITY_EXCEEDED, -100003);
        Due.due("NONE", TicketScales.NONE, -100009);
    }
}
