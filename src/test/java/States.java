import java.util.function.Supplier;

/** Objects in states that the tests of edges begin with. Each call makes a new one. */
final class States {
    private States() {
    }

    /**
     * Three customers (0 and 2 with a kept weighing), two prizes, a snapshot in slot 1, a full history, a failure, a
     * text that can be run.
     */
    static TicketScales busy() {
        TicketScales x = new TicketScales();
        x.setKind(1, 2000, 20);
        x.setScale(100, 60);
        x.setBias(-30);
        x.come(4000);
        x.come(200);
        x.come(300);
        x.addPrize(3, 40, 9, 100, 90);
        x.addPrize(4, 50, 8, 1000, 90);
        x.weigh(0, 1, 100, 1500);
        x.weigh(2, 0, 300, -2900);
        x.buy(1, 0, 3);
        x.take(1);
        Due.run(x, "rule 9;");
        x.setFee(17);
        Due.type(x, "come 7;rule 3;");
        return x;
    }

    /** Six customers without points, six prizes with one piece each, both snapshots, a text of 140 spaces. */
    static TicketScales crowded() {
        TicketScales x = new TicketScales();
        x.take(0);
        for (int i = 0; i < 6; i++) {
            x.come(0);
            x.addPrize(5000, 1, 1, 100000, 1);
        }
        x.take(1);
        Due.type(x, " ".repeat(140));
        return x;
    }

    /** An object of a state on which a call has been made. */
    static Supplier<TicketScales> behind(Supplier<TicketScales> state, String name, int... a) {
        return () -> {
            TicketScales x = state.get();
            Calls.answer(x, name, a);
            return x;
        };
    }
}
