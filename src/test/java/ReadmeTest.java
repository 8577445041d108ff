/** The examples of README.md, call by call. */
public final class ReadmeTest {
    private ReadmeTest() {
    }

    public static void main(String[] args) {
        TicketScales counter = new TicketScales();
        calls(counter);
        text(counter);
        Due.end();
    }

    private static void calls(TicketScales counter) {
        Due.due("come(50)", counter.come(50), 0);
        Due.due("weigh(0, 0, 37, 120)", counter.weigh(0, 0, 37, 120), 37);
        Due.due("customer(0, 3)", counter.customer(0, 3), 37100);
        Due.due("allowed(37100, 0, 2)", counter.allowed(37100, 0, 2), 1);
        Due.due("claim(0, 38)", counter.claim(0, 38), 0);
        Due.due("undo()", counter.undo(), 2);
        Due.due("count(7)", counter.count(7), 1);
        Due.due("addPrize(20, 300, 5, 1000, 700)", counter.addPrize(20, 300, 5, 1000, 700), 0);
        Due.due("buy(0, 0, 4)", counter.buy(0, 0, 4), 7);
        Due.due("prize(0, 2)", counter.prize(0, 2), 3);
    }

    private static void text(TicketScales counter) {
        for (char sign : "come 20; weigh 1 0 12; buy 1 0 9;".toCharArray()) {
            counter.append(sign);
        }
        Due.due("run()", counter.run(), -1023);
        Due.due("failure(3)", counter.failure(3), Due.STATE);
        Due.due("count(5)", counter.count(5), 1);
    }
}
