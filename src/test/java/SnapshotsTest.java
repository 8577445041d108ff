/** Promises 15 to 17: snapshots and undo. */
public final class SnapshotsTest {
    private SnapshotsTest() {
    }

    public static void main(String[] args) {
        promise15Take();
        promise16RestoresAll();
        promise16Errors();
        promise17Undo();
        promise17SnapshotsBelongToTheState();
        promise17TextAndFailureDoNot();
        Due.end();
    }

    private static void promise15Take() {
        TicketScales x = new TicketScales();
        Due.due("take(0) of nobody", x.take(0), 0);
        x.come(30);
        x.come(12);
        Due.due("take(1)", x.take(1), 42);
        Due.due("snapshots", x.count(11), 2);
        Due.due("take(-1)", x.take(-1), Due.BAD);
        Due.due("take(2)", x.take(2), Due.BAD);
        Due.due("history", x.count(12), 4);
        Due.due("restore(0)", x.restore(0), 0);
        Due.due("customers", x.count(5), 0);
        Due.due("restore(1)", x.restore(1), 42);
        Due.due("take(0) in place of another", x.take(0), 42);
        Due.due("snapshots still", x.count(11), 2);
        x.leave(0);
        Due.due("restore(0) of the later one", x.restore(0), 42);
    }

    private static TicketScales full() {
        TicketScales x = new TicketScales();
        x.setKind(3, 500, 50);
        x.setScale(10, 300);
        x.setBias(-7);
        x.setRule(1);
        x.setFee(8);
        x.come(4000);
        x.come(100);
        x.weigh(1, 3, 100, 400);
        x.addPrize(7, 10, 20, 25, 13);
        x.addPrize(9, 10, 5, 900, 13);
        x.buy(0, 0, 7);
        return x;
    }

    private static void promise16RestoresAll() {
        TicketScales x = full();
        String before = View.ofCounter(x);
        x.take(1);
        Due.type(x, "rule 2;");
        x.setKind(3, 600, 5);
        x.setKind(0, 600, 5);
        x.setScale(11, 299);
        x.setBias(6);
        x.setRule(2);
        x.setFee(9);
        x.weigh(0, 0, 3, 1);
        x.claim(1, 96);
        x.come(5);
        x.leave(0);
        x.setPrice(0, 8);
        x.buy(0, 0, 1);
        x.removePrize(1);
        String later = View.ofCounter(x);
        Due.isTrue("much has changed", !later.equals(before));
        Due.due("points", x.restore(1), x.count(9));
        Due.isTrue("all is as it was", View.ofCounter(x).equals(before));
        Due.due("the text stays", x.count(13), 7);
        Due.due("restore is an action", x.count(12), 5);
        Due.due("the snapshot stays", x.count(11), 1);
        x.setRule(3);
        x.leave(1);
        x.restore(1);
        Due.isTrue("all is as it was again", View.ofCounter(x).equals(before));
        x.undo();
        x.undo();
        x.undo();
        x.undo();
        Due.isTrue("undone to what was before the first restore", View.ofCounter(x).equals(later));
    }

    private static void promise16Errors() {
        TicketScales x = new TicketScales();
        x.take(0);
        Due.due("restore(-1)", x.restore(-1), Due.BAD);
        Due.due("restore(2)", x.restore(2), Due.BAD);
        Due.due("restore(1)", x.restore(1), Due.STATE);
        Due.due("history", x.count(12), 1);
        Due.due("restore(0)", x.restore(0), 0);
        Due.due("history then", x.count(12), 2);
    }

    private static void promise17Undo() {
        TicketScales x = new TicketScales();
        Due.due("undo() of nothing", x.undo(), Due.STATE);
        for (int i = 0; i < 9; i++) {
            x.setFee(10 + i);
            Due.due("states", x.count(12), Math.min(5, i + 1));
        }
        for (int left = 4; left >= 0; left--) {
            Due.due("undo()", x.undo(), left);
            Due.due("fee", x.count(4), 13 + left);
        }
        Due.due("undo() of no more", x.undo(), Due.STATE);
        Due.due("fee still", x.count(4), 13);
        x.setFee(50);
        x.setFee(51);
        x.undo();
        x.setFee(52);
        Due.due("undo() behind another way", x.undo(), 1);
        Due.due("fee before", x.count(4), 50);
        Due.due("undo()", x.undo(), 0);
        Due.due("fee at first", x.count(4), 13);
        TicketScales y = full();
        String before = View.ofCounter(y);
        y.leave(1);
        y.removePrize(0);
        y.undo();
        y.undo();
        Due.isTrue("undo restores all", View.ofCounter(y).equals(before));
    }

    private static void promise17SnapshotsBelongToTheState() {
        TicketScales x = new TicketScales();
        x.come(5);
        x.take(0);
        x.undo();
        Due.due("the slot is empty again", x.restore(0), Due.STATE);
        Due.due("snapshots", x.count(11), 0);
        x.take(0);
        x.come(6);
        x.take(0);
        x.undo();
        Due.due("the earlier snapshot is back", x.restore(0), 5);
        x.undo();
        Due.due("points", x.count(9), 11);
    }

    private static void promise17TextAndFailureDoNot() {
        TicketScales x = new TicketScales();
        x.setFee(6);
        Due.due("run", Due.run(x, "rule 9;"), -1000);
        x.undo();
        Due.due("the text stays", x.count(13), 7);
        Due.failure(x, "the failure stays", 2, 0, Due.BAD, 0);
        x.clearText();
        Due.due("clearText and append are no actions", x.undo(), Due.STATE);
        Due.run(x, "rule 2;");
        Due.due("undo() of a run", x.undo(), 0);
        Due.due("the text stays empty", x.count(13), 0);
        Due.due("rule", x.count(3), 0);
    }
}
