import java.util.function.Supplier;

/** The edges that 'Snapshots', 'Undo' and 'Errors' name, and promises 1, 15 to 17 and 22; the sentences stand at the tests. */
public final class StateEdgesTest {
    private static final String[] ACTIONS = {"setKind", "setScale", "setBias", "setRule", "setFee", "come", "leave", "weigh", "claim",
        "addPrize", "removePrize", "setPrice", "buy", "take", "restore", "run"};
    private static final int[][] ARGUMENTS = {{3, 700, 7}, {7, 9}, {5}, {3}, {99}, {6}, {1}, {1, 0, 300, -2900}, {0, 100},
        {2, 3, 4, 5, 6}, {0}, {1, 77}, {0, 0, 2}, {0}, {1}, {}};

    private StateEdgesTest() {
    }

    public static void main(String[] args) {
        aNewObject();
        objectsOfTheirOwn();
        everyActionIsRecorded();
        everyActionIsUndone();
        everyActionDropsTheOldestOfFive();
        actionsThatChangeNothing();
        otherCallsAreNotRecorded();
        lookingChangesNothing();
        aSixthDropsTheOldest();
        undoIsNoAction();
        undoBehindUndo();
        twoSlots();
        inPlaceOfOneThatIsThere();
        aSnapshotKeepsAllThis();
        everyNumberIsBroughtBack();
        nothingElseChanges();
        theSnapshotStays();
        snapshotsBelongToTheState();
        theTextAndTheFailureDoNot();
        numbersAtTheEnds();
        fiveHundredAndTwelveCalls();
        Due.end();
    }

    /** "Creates a counter without customers and prizes, with an empty text."; "empty at first" */
    private static void aNewObject() {
        TicketScales x = new TicketScales();
        int[] counts = {100, 50, 0, 0, 5, 0, 0, 0, 0, 0, 0, 0, 0, 0};
        for (int what = 0; what < counts.length; what++) {
            Due.due("count(" + what + ")", x.count(what), counts[what]);
        }
        Due.due("no customer", x.customer(0, 0), Due.BAD);
        Due.due("no prize", x.prize(0, 0), Due.BAD);
        Due.due("slot 0 is empty", x.restore(0), Due.STATE);
        Due.due("slot 1 is empty", x.restore(1), Due.STATE);
        Due.due("the history is empty", x.undo(), Due.STATE);
        for (int what = 0; what < 5; what++) {
            Due.due("no failure", x.failure(what), Due.NONE);
        }
        Due.due("the text is empty", x.clearText(), 0);
        Due.due("and can be run", x.run(), 0);
    }

    /** Two objects share nothing. */
    private static void objectsOfTheirOwn() {
        TicketScales x = States.busy();
        TicketScales y = new TicketScales();
        String before = View.of(x) + View.ofFailure(x);
        String fresh = View.of(y) + View.ofFailure(y);
        y.setFee(3);
        y.come(9);
        Due.run(y, "rule ?");
        y.take(0);
        y.setScale(9, 9);
        Due.isTrue("the first one is as it was", before.equals(View.of(x) + View.ofFailure(x)));
        TicketScales z = new TicketScales();
        Due.isTrue("a third one is new", fresh.equals(View.of(z) + View.ofFailure(z)));
    }

    /** Something of all, and one state in the history. */
    private static TicketScales calm() {
        TicketScales x = States.busy();
        while (x.count(12) > 1) {
            x.undo();
        }
        Due.type(x, "come 7;rule 3;");
        return x;
    }

    /** The same; slot 1 is filled, customer 0 keeps a weighing with the guess 101. */
    private static TicketScales filled() {
        TicketScales x = calm();
        x.take(1);
        return x;
    }

    /** "Every successful call of a method that is called an action records the state before it" */
    private static void everyActionIsRecorded() {
        for (int i = 0; i < ACTIONS.length; i++) {
            TicketScales x = filled();
            int before = x.count(12);
            String call = Calls.text(ACTIONS[i], ARGUMENTS[i]);
            Due.isTrue(call + " succeeds", Calls.answer(x, ACTIONS[i], ARGUMENTS[i]) >= -1000);
            Due.due(call + ": states", x.count(12), before + 1);
        }
    }

    /** "undo() removes the latest state from the history and restores it." */
    private static void everyActionIsUndone() {
        for (int i = 0; i < ACTIONS.length; i++) {
            String call = Calls.text(ACTIONS[i], ARGUMENTS[i]);
            TicketScales x = filled();
            String before = View.ofCounter(x) + x.count(11) + ' ' + x.count(12);
            Calls.answer(x, ACTIONS[i], ARGUMENTS[i]);
            Due.isTrue(call + " changes something", !before.equals(View.ofCounter(x) + x.count(11) + ' ' + x.count(12)));
            Due.due(call + ": undo()", x.undo(), 2);
            Due.isTrue(call + " is undone", before.equals(View.ofCounter(x) + x.count(11) + ' ' + x.count(12)));
        }
    }

    /** "A history of at most 5 states is kept"; "when a sixth one is recorded, the oldest one is dropped" */
    private static void everyActionDropsTheOldestOfFive() {
        for (int i = 0; i < ACTIONS.length; i++) {
            String call = Calls.text(ACTIONS[i], ARGUMENTS[i]);
            String[] earlier = new String[5];
            TicketScales y = States.busy();
            y.take(1);
            for (int k = 0; k < 5; k++) {
                earlier[k] = View.ofCounter(y);
                y.undo();
            }
            TicketScales x = States.busy();
            x.take(1);
            Calls.answer(x, ACTIONS[i], ARGUMENTS[i]);
            Due.due(call + ": states", x.count(12), 5);
            for (int k = 0; k < 5; k++) {
                Due.due(call + ": undo()", x.undo(), 4 - k);
                Due.isTrue(call + ": state " + k, earlier[k].equals(View.ofCounter(x)));
            }
            Due.due(call + ": no sixth one", x.undo(), Due.STATE);
        }
    }

    private static TicketScales same() {
        TicketScales x = filled();
        x.restore(1);
        x.clearText();
        return x;
    }

    /** "(also if nothing changes by it)" */
    private static void actionsThatChangeNothing() {
        String[] names = {"setKind", "setScale", "setBias", "setRule", "setFee", "setPrice", "take", "restore", "run"};
        int[][] arguments = {{1, 2000, 20}, {100, 60}, {-30}, {0}, {5}, {0, 3}, {1}, {1}, {}};
        for (int i = 0; i < names.length; i++) {
            String call = Calls.text(names[i], arguments[i]);
            TicketScales x = same();
            String before = View.ofCounter(x);
            int states = x.count(12);
            Due.isTrue(call + " succeeds", Calls.answer(x, names[i], arguments[i]) >= -1000);
            Due.isTrue(call + " changes nothing", before.equals(View.ofCounter(x)));
            Due.due(call + " is recorded", x.count(12), states + 1);
            Due.due(call + ": undo()", x.undo(), states);
            Due.isTrue(call + " is undone", before.equals(View.ofCounter(x)));
        }
    }

    /** append(), clearText(), failure() and looking are no actions, nor is a run that fails. */
    private static void otherCallsAreNotRecorded() {
        TicketScales x = States.busy();
        String before = View.ofCounter(x);
        x.append(';');
        x.clearText();
        Due.due("run", Due.run(x, "come 1;rule 4;"), -1007);
        x.failure(0);
        x.fairest();
        Due.due("states", x.count(12), 5);
        x.undo();
        Due.due("the latest one was that before setFee", x.count(4), 5);
        Due.isTrue("something else", !before.equals(View.ofCounter(x)));
        TicketScales y = new TicketScales();
        y.append('x');
        y.clearText();
        Due.due("run", Due.run(y, "x"), -1000);
        Due.due("no states", y.count(12), 0);
        Due.due("nothing to undo", y.undo(), Due.STATE);
    }

    /** "what readings allow, which changes nothing", "what prizes could do, which changes nothing", and looking */
    private static void lookingChangesNothing() {
        String[] names = {"failure", "count", "kind", "customer", "prize", "read", "allowed", "guess", "apartUpTo", "bestStep", "mixed",
            "would", "fairest", "soldOut", "shop"};
        int[][] arguments = {{1}, {8}, {1, 0}, {0, 3}, {0, 5}, {777}, {297100, 0, 1}, {297100, 0, 3}, {1}, {0, 20}, {0, 1, 30000, 0},
            {2}, {}, {0}, {0, 2}};
        Supplier<TicketScales> busy = States::busy;
        String before = View.ofAll(busy);
        for (int i = 0; i < names.length; i++) {
            Due.isTrue(names[i] + " changes nothing", before.equals(View.ofAll(States.behind(busy, names[i], arguments[i]))));
        }
    }

    private static void aSixthDropsTheOldest() {
        for (int actions = 0; actions <= 12; actions++) {
            TicketScales x = new TicketScales();
            for (int i = 1; i <= actions; i++) {
                x.setFee(10 + i);
                Due.due("states", x.count(12), Math.min(5, i));
            }
            int states = Math.min(5, actions);
            for (int undone = 1; undone <= states; undone++) {
                Due.due("undo()", x.undo(), states - undone);
                int left = actions - undone;
                Due.due("fee", x.count(4), left == 0 ? 5 : 10 + left);
                Due.due("states", x.count(12), states - undone);
            }
            Due.due("no more", x.undo(), Due.STATE);
            Due.due("states", x.count(12), 0);
            Due.due("fee", x.count(4), actions > 5 ? 10 + actions - 5 : 5);
        }
    }

    /** undo() is not called an action: it records nothing, and what it leaves can't be brought back. */
    private static void undoIsNoAction() {
        TicketScales x = new TicketScales();
        x.setFee(6);
        x.setFee(7);
        Due.due("undo()", x.undo(), 1);
        Due.due("fee", x.count(4), 6);
        Due.due("undo() again", x.undo(), 0);
        Due.due("fee", x.count(4), 5);
        Due.due("undo() of nothing", x.undo(), Due.STATE);
        Due.due("fee", x.count(4), 5);
    }

    /** A state that was undone is not in the history any more, and room for another one is there. */
    private static void undoBehindUndo() {
        TicketScales x = new TicketScales();
        for (int i = 1; i <= 7; i++) {
            x.setFee(10 + i);
        }
        x.undo();
        x.undo();
        x.setFee(50);
        Due.due("states", x.count(12), 4);
        x.setFee(51);
        x.setFee(52);
        Due.due("states", x.count(12), 5);
        int[] fees = {51, 50, 15, 14, 13};
        for (int i = 0; i < fees.length; i++) {
            Due.due("undo()", x.undo(), 4 - i);
            Due.due("fee", x.count(4), fees[i]);
        }
        Due.due("no more", x.undo(), Due.STATE);
    }

    /** "There are two slots for snapshots, empty at first." */
    private static void twoSlots() {
        TicketScales x = new TicketScales();
        x.come(1);
        Due.due("take(0)", x.take(0), 1);
        Due.due("snapshots", x.count(11), 1);
        Due.due("slot 1 is empty", x.restore(1), Due.STATE);
        x.come(2);
        Due.due("take(1)", x.take(1), 3);
        Due.due("snapshots", x.count(11), 2);
        x.come(4);
        Due.due("restore(0)", x.restore(0), 1);
        Due.due("customers", x.count(5), 1);
        Due.due("restore(1)", x.restore(1), 3);
        Due.due("customers", x.count(5), 2);
        TicketScales y = new TicketScales();
        y.take(1);
        Due.due("slot 0 is empty", y.restore(0), Due.STATE);
        Due.due("slot 1 is not", y.restore(1), 0);
        Due.due("a third slot", y.take(2), Due.BAD);
        Due.due("a third slot", y.restore(2), Due.BAD);
    }

    /** "in place of one that is there" */
    private static void inPlaceOfOneThatIsThere() {
        TicketScales x = new TicketScales();
        x.come(1);
        x.take(0);
        x.take(1);
        x.come(2);
        Due.due("take(0) again", x.take(0), 3);
        Due.due("snapshots", x.count(11), 2);
        x.leave(0);
        x.leave(0);
        Due.due("take(0) of nobody", x.take(0), 0);
        Due.due("the other slot", x.restore(1), 1);
        Due.due("nobody", x.restore(0), 0);
        Due.due("customers", x.count(5), 0);
    }

    /** "A snapshot keeps the kinds, the scale, the rule, the customers with points and kept weighings, the gift, the fee and the prizes." */
    private static void aSnapshotKeepsAllThis() {
        for (int i = 0; i < ACTIONS.length; i++) {
            if (!ACTIONS[i].equals("take") && !ACTIONS[i].equals("restore")) {
                String call = Calls.text(ACTIONS[i], ARGUMENTS[i]);
                TicketScales x = filled();
                String before = View.ofCounter(x);
                int points = x.count(9);
                Calls.answer(x, ACTIONS[i], ARGUMENTS[i]);
                String behind = View.ofCounter(x);
                Due.isTrue(call + " changes something", !before.equals(behind));
                Due.due(call + ": restore(1)", x.restore(1), points);
                Due.isTrue(call + ": all is as it was", before.equals(View.ofCounter(x)));
                Due.due(call + ": what comes next", x.come(1), 3);
                x.undo();
                Due.due(call + ": undo() of restore(1)", x.undo(), 3);
                Due.isTrue(call + ": as before restore(1)", behind.equals(View.ofCounter(x)));
            }
        }
    }

    /** Each number of a state is another one here than in a new object. */
    private static TicketScales unlikeNew() {
        TicketScales x = new TicketScales();
        x.setKind(3, 500, 50);
        x.setScale(10, 300);
        x.setBias(-7);
        x.setRule(1);
        x.setFee(8);
        x.come(4000);
        x.come(44);
        x.weigh(1, 3, 400, 10);
        x.addPrize(7, 10, 20, 25, 13);
        x.buy(0, 0, 7);
        x.buy(0, 0, 2);
        return x;
    }

    private static void isUnlikeNew(TicketScales x, String when) {
        // The least count that the reading 200000 allows is (200000 - 5 - 300) / 550, rounded up.
        int[] counts = {10, 300, -7, 1, 8, 2, 1, 1, -36, 4345, 14};
        for (int what = 0; what < counts.length; what++) {
            Due.due(when + ": count(" + what + ")", x.count(what), counts[what]);
        }
        Due.due(when + ": weight", x.kind(3, 0), 500);
        Due.due(when + ": spread", x.kind(3, 1), 50);
        int[] customer = {408, 3, 400, 200000, 364};
        for (int what = 0; what < customer.length; what++) {
            Due.due(when + ": customer(1, " + what + ")", x.customer(1, what), customer[what]);
        }
        int[] prize = {7, 10, 14, 25, 13, 15, 3};
        for (int what = 0; what < prize.length; what++) {
            Due.due(when + ": prize(0, " + what + ")", x.prize(0, what), prize[what]);
        }
    }

    private static void changeAll(TicketScales x) {
        x.setKind(3, 600, 5);
        x.setScale(11, 299);
        x.setBias(6);
        x.setRule(2);
        x.setFee(9);
        x.weigh(0, 0, 3, 1);
        x.claim(1, 390);
        x.come(5);
        x.leave(1);
        x.setPrice(0, 8);
        x.buy(0, 0, 3);
        x.addPrize(1, 2, 3, 4, 5);
        x.removePrize(0);
    }

    /** undo() and restore() bring each number back, also one that the rows at hand have never had. */
    private static void everyNumberIsBroughtBack() {
        isUnlikeNew(unlikeNew(), "at once");
        int[][] arguments = {{3, 700, 7}, {7, 9}, {5}, {3}, {99}, {6}, {1}, {1, 0, 300, -2900}, {1, 390}, {2, 3, 4, 5, 6}, {0}, {0, 77},
            {0, 0, 3}, {0}, {1}, {}};
        for (int i = 0; i < ACTIONS.length; i++) {
            TicketScales x = unlikeNew();
            x.take(1);
            Due.isTrue(ACTIONS[i] + " succeeds", Calls.answer(x, ACTIONS[i], arguments[i]) > -1000);
            Due.due("undo() of " + ACTIONS[i], x.undo(), 4);
            isUnlikeNew(x, "behind undo() of " + ACTIONS[i]);
        }
        for (int slot = 0; slot < 2; slot++) {
            TicketScales x = unlikeNew();
            x.take(slot);
            changeAll(x);
            Due.due("restore", x.restore(slot), 4345);
            isUnlikeNew(x, "behind restore()");
            changeAll(x);
            x.restore(slot);
            isUnlikeNew(x, "behind restore() again");
            x.setFee(1);
            x.undo();
            isUnlikeNew(x, "behind restore() and undo()");
        }
        TicketScales x = unlikeNew();
        String text = "kind 3 600 5;rule 0;come 9;prize 9 9 9 9 9;weigh 0 0 9;claim 1 300;buy 0 0 3;scale 11 2;x";
        Due.due("run", Due.run(x, text), -1000 - text.indexOf('x'));
        Due.due("commands", x.failure(4), 8);
        isUnlikeNew(x, "behind a run that failed");
    }

    /** "nothing else changes": the text, the failure and the other snapshot stay, the history but for this action. */
    private static void nothingElseChanges() {
        TicketScales x = new TicketScales();
        x.setFee(1);
        x.take(0);
        x.setFee(2);
        x.take(1);
        Due.due("run", Due.run(x, "rule 1;rule 4;"), -1007);
        Due.type(x, "come 3;");
        Due.due("restore(0)", x.restore(0), 0);
        Due.due("fee", x.count(4), 1);
        Due.due("snapshots", x.count(11), 2);
        Due.due("states", x.count(12), 5);
        Due.due("length", x.count(13), 7);
        Due.failure(x, "failure", 2, 7, Due.BAD, 1);
        x.restore(1);
        Due.due("fee of the other slot", x.count(4), 2);
        Due.due("the text can be run", x.run(), 1);
        Due.due("points", x.count(9), 3);
    }

    /** "Restores a snapshot, which stays." */
    private static void theSnapshotStays() {
        TicketScales x = filled();
        String before = View.ofCounter(x);
        for (int i = 0; i < 3; i++) {
            x.setKind(0, 200, 2);
            x.weigh(0, 1, 10 + i, 0);
            x.buy(0, 0, 1);
            x.setPrice(1, 9);
            x.leave(2);
            x.restore(1);
            Due.isTrue("as it was", before.equals(View.ofCounter(x)));
            Due.due("snapshots", x.count(11), 1);
        }
    }

    /** "a state is everything but the text, the failure and the history (the snapshots belong to it)" */
    private static void snapshotsBelongToTheState() {
        TicketScales x = new TicketScales();
        x.come(1);
        x.take(0);
        x.come(2);
        x.take(0);
        Due.due("undo() of the second", x.undo(), 3);
        Due.due("the first one is back", x.restore(0), 1);
        x.undo();
        x.undo();
        Due.due("undo() of the first", x.undo(), 1);
        Due.due("snapshots", x.count(11), 0);
        Due.due("the slot is empty", x.restore(0), Due.STATE);
        Due.due("points", x.count(9), 1);
        x.take(1);
        x.undo();
        Due.due("the other slot is empty too", x.restore(1), Due.STATE);
        x.take(0);
        x.setFee(9);
        x.restore(0);
        x.undo();
        Due.due("undo() of restore() leaves the snapshot", x.count(11), 1);
        Due.due("fee", x.count(4), 9);
        Due.due("restore(0)", x.restore(0), 1);
        Due.due("fee", x.count(4), 5);
        aSnapshotThatWasUndoneStaysAway();
    }

    private static void aSnapshotThatWasUndoneStaysAway() {
        for (int actions = 0; actions <= 7; actions++) {
            TicketScales x = new TicketScales();
            x.take(0);
            x.take(1);
            x.undo();
            x.undo();
            for (int i = 0; i < actions; i++) {
                x.setFee(i);
                Due.due("snapshots", x.count(11), 0);
            }
            for (int i = Math.min(5, actions); i > 0; i--) {
                x.undo();
                Due.due("snapshots behind undo()", x.count(11), 0);
                Due.due("the slot is empty", x.restore(i % 2), Due.STATE);
            }
        }
    }

    private static void theTextAndTheFailureDoNot() {
        TicketScales x = new TicketScales();
        x.setFee(6);
        Due.due("run", Due.run(x, "rule 1;rule 4;"), -1007);
        x.setFee(7);
        x.append(' ');
        x.undo();
        Due.due("length", x.count(13), 15);
        Due.failure(x, "failure behind undo()", 2, 7, Due.BAD, 1);
        Due.due("run", Due.run(x, "?"), -1000);
        x.undo();
        Due.failure(x, "the later failure behind undo()", 1, 0, Due.NONE, 0);
        Due.due("run", Due.run(x, "come 4;"), 1);
        Due.due("length", x.count(13), 0);
        x.undo();
        Due.due("the text is not brought back", x.count(13), 0);
        Due.failure(x, "failure behind undo() of a run", 1, 0, Due.NONE, 0);
    }

    /** count(): each number as it is at its ends. */
    private static void numbersAtTheEnds() {
        TicketScales x = new TicketScales();
        int[][] rows = {{1, 0, 0}, {1000, 2000, 2000}, {1000, 2000, -2000}};
        for (int[] row : rows) {
            x.setScale(row[0], row[1]);
            x.setBias(row[2]);
            for (int what = 0; what < 3; what++) {
                Due.due("count(" + what + ")", x.count(what), row[what]);
            }
        }
        x.setScale(100, 50);
        x.setBias(0);
        for (int i = 0; i < 6; i++) {
            x.come(9999);
            x.weigh(i, 0, 500, 5000);
            x.addPrize(1, 1, 99, 1, 1);
        }
        x.take(0);
        x.take(1);
        Due.type(x, "x".repeat(140));
        int[] due = {100, 50, 0, 0, 5, 6, 6, 6, 30, 63024, 594, 2, 5, 140};
        for (int what = 0; what < due.length; what++) {
            Due.due("count(" + what + ")", x.count(what), due[what]);
        }
    }

    /** "An object is used for at most 512 calls after it has been made": the last ones are as good as the first. */
    private static void fiveHundredAndTwelveCalls() {
        TicketScales x = new TicketScales();
        x.come(0);
        x.setRule(1);
        for (int i = 0; i < 503; i++) {
            Due.due("weigh", x.weigh(0, 0, 500, -5000), 490);
        }
        Due.due("gift", x.count(8), -10 * 503);
        Due.due("points", x.count(9), 490 * 503);
        Due.due("states", x.count(12), 5);
        for (int left = 4; left > 0; left--) {
            Due.due("undo()", x.undo(), left);
        }
    }
}
