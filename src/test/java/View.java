import java.util.function.Supplier;

/** What can be seen of an object, as a text, so that two objects or two times can be compared. */
final class View {
    private View() {
    }

    /** What a snapshot keeps. */
    static String ofCounter(TicketScales x) {
        StringBuilder text = new StringBuilder();
        for (int what = 0; what <= 10; what++) {
            text.append(x.count(what)).append(' ');
        }
        for (int kind = 0; kind < 4; kind++) {
            text.append("/ kind ").append(x.kind(kind, 0)).append(' ').append(x.kind(kind, 1));
        }
        for (int customer = 0; customer < x.count(5); customer++) {
            text.append("/ customer");
            for (int what = 0; what <= 4; what++) {
                text.append(' ').append(x.customer(customer, what));
            }
        }
        for (int prize = 0; prize < x.count(6); prize++) {
            text.append("/ prize");
            for (int what = 0; what <= 6; what++) {
                text.append(' ').append(x.prize(prize, what));
            }
        }
        return text.toString();
    }

    /** What ofCounter() tells, the numbers of snapshots and of states in the history, and the length of the text. */
    static String of(TicketScales x) {
        return ofCounter(x) + "/ more " + x.count(11) + ' ' + x.count(12) + ' ' + x.count(13);
    }

    static String ofFailure(TicketScales x) {
        StringBuilder text = new StringBuilder("/ failure");
        for (int what = 0; what <= 4; what++) {
            text.append(' ').append(x.failure(what));
        }
        return text.toString();
    }

    /**
     * What of() tells, and what lies behind it: each state of the history, both snapshots, and what the text does. Each
     * of them is looked at in an object of its own, as looking changes it.
     */
    static String ofAll(Supplier<TicketScales> made) {
        StringBuilder text = new StringBuilder();
        for (int undone = 0; undone <= 6; undone++) {
            TicketScales x = made.get();
            for (int i = 0; i < undone; i++) {
                text.append(x.undo()).append(' ');
            }
            text.append(of(x)).append('\n');
        }
        for (int slot = 0; slot < 2; slot++) {
            TicketScales x = made.get();
            text.append(x.restore(slot)).append(' ').append(of(x)).append('\n');
        }
        TicketScales x = made.get();
        text.append(x.run()).append(' ').append(of(x)).append(ofFailure(x)).append('\n');
        return text.toString();
    }
}
