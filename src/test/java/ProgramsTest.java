/** Promises 18 to 21: the text, its running, and failures. */
public final class ProgramsTest {
    private ProgramsTest() {
    }

    public static void main(String[] args) {
        promise18Append();
        promise19ClearText();
        promise20Commands();
        promise20Spaces();
        promise20OneAction();
        promise20NothingStays();
        promise20Longest();
        promise21Grammar();
        promise21Calls();
        promise21Parts();
        Due.end();
    }

    private static void promise18Append() {
        TicketScales x = new TicketScales();
        Due.due("append(0)", x.append(0), Due.BAD);
        Due.due("append(256)", x.append(256), Due.BAD);
        Due.due("append(-1)", x.append(-1), Due.BAD);
        Due.due("append(MAX)", x.append(Integer.MAX_VALUE), Due.BAD);
        Due.due("append(1)", x.append(1), 1);
        Due.due("append(255)", x.append(255), 2);
        for (int i = 3; i <= 140; i++) {
            Due.due("append " + i, x.append(32), i);
        }
        Due.due("append to 140", x.append(32), Due.FULL);
        Due.due("append(0) to 140", x.append(0), Due.BAD);
        Due.due("length", x.count(13), 140);
        Due.due("history", x.count(12), 0);
    }

    private static void promise19ClearText() {
        TicketScales x = new TicketScales();
        Due.due("clearText()", x.clearText(), 0);
        Due.type(x, "come 5;");
        Due.due("clearText() then", x.clearText(), 7);
        Due.due("length", x.count(13), 0);
        Due.due("clearText() again", x.clearText(), 0);
        Due.due("run()", x.run(), 0);
        Due.due("customers", x.count(5), 0);
    }

    private static void promise20Commands() {
        TicketScales x = new TicketScales();
        Due.due("kind", Due.run(x, "kind 2 900 4;"), 1);
        Due.due("weight", x.kind(2, 0), 900);
        Due.due("spread", x.kind(2, 1), 4);
        Due.due("scale", Due.run(x, "scale 250 60;"), 1);
        Due.due("step", x.count(0), 250);
        Due.due("limit", x.count(1), 60);
        Due.due("rule", Due.run(x, "rule 2;"), 1);
        Due.due("rule", x.count(3), 2);
        Due.due("come", Due.run(x, "come 9;come 800;"), 2);
        Due.due("points", x.customer(1, 0), 800);
        Due.due("prize", Due.run(x, "prize 5 10 11 12 13;"), 1);
        for (int what = 0; what < 5; what++) {
            Due.due("prize(0, " + what + ")", x.prize(0, what), new int[] {5, 10, 11, 12, 13}[what]);
        }
        Due.due("weigh", Due.run(x, "weigh 1 2 100;"), 1);
        Due.due("kept kind", x.customer(1, 1), 2);
        Due.due("kept count", x.customer(1, 2), 100);
        Due.due("kept reading", x.customer(1, 3), 90000);
        Due.due("kept guess", x.customer(1, 4), 100);
        Due.due("claim", Due.run(x, "claim 1 99;"), 1);
        Due.due("not kept", x.customer(1, 4), Due.NONE);
        Due.due("weigh exactly", Due.run(x, "scale 1 0;weigh 0 2 7;"), 2);
        Due.due("the deviation is 0", x.customer(0, 3), 6300);
        Due.due("buy", Due.run(x, "buy 1 0 2;"), 1);
        Due.due("points then", x.customer(1, 0), 890);
        Due.due("boxes", x.prize(0, 6), 1);
    }

    private static void promise20Spaces() {
        TicketScales x = new TicketScales();
        Due.due("no commands", Due.run(x, ""), 0);
        Due.due("spaces alone", Due.run(x, "   "), 0);
        Due.due("the text becomes empty", x.count(13), 0);
        Due.due("as few as can be", Due.run(x, "come1;come2;rule3;"), 3);
        Due.due("many", Due.run(x, "  come   3  ;  kind 1  700   0 ;  "), 2);
        Due.due("customers", x.count(5), 3);
        Due.due("needed between numbers", Due.run(x, "scale 10050;"), -1011);
        Due.due("needed between letters", Due.run(x, "rule 1;ruleone"), -1007);
        Due.due("no space in a word", Due.run(x, "ru le 1;"), -1000);
        Due.due("no space in a number", Due.run(x, "rule 1 1;"), -1007);
    }

    private static void promise20OneAction() {
        TicketScales x = new TicketScales();
        Due.due("run", Due.run(x, "come 1;come 2;come 3;rule 1;scale 7 8;kind 0 100 0;"), 6);
        Due.due("one action", x.count(12), 1);
        Due.due("the text is empty", x.count(13), 0);
        Due.due("undo()", x.undo(), 0);
        Due.due("customers", x.count(5), 0);
        Due.due("rule", x.count(3), 0);
        x.run();
        Due.due("an action without commands", x.count(12), 1);
        x.setFee(1);
        x.setFee(2);
        x.setFee(3);
        x.setFee(4);
        Due.run(x, "come 1;come 2;");
        Due.due("the history is full", x.count(12), 5);
        x.undo();
        Due.due("fee", x.count(4), 4);
        Due.due("customers", x.count(5), 0);
    }

    private static void promise20NothingStays() {
        TicketScales x = new TicketScales();
        x.come(100);
        x.take(0);
        x.addPrize(1, 1, 9, 5, 3);
        x.setBias(20);
        String text = "buy 0 0 5;weigh 0 0 5;scale 1 1;kind 1 100 1;rule 2;come 1;claim 0 6;come 10000;";
        Due.due("run", Due.run(x, text), -1000 - text.indexOf("come 10000"));
        Due.failure(x, "failure", 2, text.indexOf("come 10000"), Due.BAD, 7);
        Due.due("the text is kept", x.count(13), text.length());
        Due.due("history", x.count(12), 4);
        Due.due("stock", x.prize(0, 2), 9);
        Due.due("boxes", x.prize(0, 6), 0);
        Due.due("points", x.count(9), 100);
        Due.due("kept", x.count(7), 0);
        Due.due("step", x.count(0), 100);
        Due.due("bias", x.count(2), 20);
        Due.due("weight", x.kind(1, 0), 1000);
        Due.due("rule", x.count(3), 0);
        Due.due("customers", x.count(5), 1);
        Due.due("snapshots", x.count(11), 1);
        Due.due("run() again", x.run(), -1000 - text.indexOf("come 10000"));
        x.setFee(7);
        x.setFee(8);
        Due.due("undo() of what came later", x.undo(), 4);
        Due.due("fee", x.count(4), 7);
        Due.due("bias still", x.count(2), 20);
        x.undo();
        Due.due("undo()", x.undo(), 2);
        Due.due("undone", x.count(2), 0);
    }

    private static void promise20Longest() {
        Due.due("140 signs", Due.run(new TicketScales(), "rule1;".repeat(23) + "  "), 23);
        grammar("rule1;".repeat(22) + " rule 1 ", 140, 22);
        grammar("z".repeat(140), 0, 0);
        grammar("1".repeat(140), 0, 0);
        grammar("come " + "1".repeat(135), 5, 0);
    }

    private static void grammar(String text, int place, int commands) {
        TicketScales x = new TicketScales();
        Due.due("run of \"" + text + "\"", Due.run(x, text), -1000 - place);
        Due.failure(x, "failure of \"" + text + "\"", 1, place, Due.NONE, commands);
        Due.due("text of \"" + text + "\"", x.count(13), text.length());
        Due.due("history of \"" + text + "\"", x.count(12), 0);
    }

    private static void promise21Grammar() {
        grammar("rule", 4, 0);
        grammar("rule  ", 6, 0);
        grammar("rule 1", 6, 0);
        grammar("rule;", 4, 0);
        grammar("rule 1 2;", 7, 0);
        grammar("rule x;", 5, 0);
        grammar("rule 01;", 5, 0);
        grammar("rule 00;", 5, 0);
        grammar("rule 1234567;", 5, 0);
        grammar("rule -1;", 5, 0);
        grammar("rule 1.5;", 6, 0);
        grammar("RULE 1;", 0, 0);
        grammar("Rule 1;", 0, 0);
        grammar("rULE 1;", 0, 0);
        grammar("rules 1;", 0, 0);
        grammar("rul 1;", 0, 0);
        grammar("bias 1;", 0, 0);
        grammar("find 0 100 0;", 0, 0);
        grammar("kinf 0 100 0;", 0, 0);
        grammar("xcale 1 1;", 0, 0);
        grammar("dome 1;", 0, 0);
        grammar("price 1 1 1 1 1;", 0, 0);
        grammar("come 1;weight 0 0 1;", 7, 1);
        grammar("come 1;blaim 0 1;", 7, 1);
        grammar("come 1;guy 0 0 1;", 7, 1);
        grammar("  fee 1;", 2, 0);
        grammar(";", 0, 0);
        grammar(" ;", 1, 0);
        grammar("7", 0, 0);
        grammar("rule 1;;", 7, 1);
        grammar("rule 1; rule 2; 3;", 16, 2);
        grammar("rule 1;\trule 2;", 7, 1);
        grammar("rule\n1;", 4, 0);
        grammar("rule " + (char) 233 + "1;", 5, 0);
        grammar("rule 1" + (char) 255, 6, 0);
        grammar("rule " + (char) 178 + ";", 5, 0);
        grammar("kind 0 100;", 10, 0);
        grammar("kind 0 100 0 0;", 13, 0);
        grammar("scale 1;", 7, 0);
        grammar("scale 1 2 3;", 10, 0);
        grammar("come 1 2;", 7, 0);
        grammar("come;", 4, 0);
        grammar("prize 1 2 3 4;", 13, 0);
        grammar("prize 1 2 3 4 5 6;", 16, 0);
        grammar("come 1;weigh 0 0;", 16, 1);
        grammar("come 1;weigh 0 0 1 0;", 19, 1);
        grammar("claim 0;", 7, 0);
        grammar("claim 0 0 0;", 10, 0);
        grammar("buy 0 0;", 7, 0);
        grammar("buy 0 0 0 0;", 10, 0);
        grammar("rule 9 ", 7, 0);
        grammar("come 10 rule", 8, 0);
        // The greatest number that is allowed by the grammar, and an 0 that is none ahead.
        TicketScales x = new TicketScales();
        Due.due("come 999999;", Due.run(x, "come 999999;"), -1000);
        Due.failure(x, "come 999999;", 2, 0, Due.BAD, 0);
        Due.due("come 0;", Due.run(x, "come 0;"), 1);
        Due.due("come 10;", Due.run(x, "come 10;"), 1);
        Due.due("points", x.count(9), 10);
    }

    private static void call(String text, int kind, int place, int code, int commands) {
        TicketScales x = new TicketScales();
        Due.due("run of \"" + text + "\"", Due.run(x, text), -1000 - place);
        Due.failure(x, "failure of \"" + text + "\"", kind, place, code, commands);
    }

    private static void promise21Calls() {
        call("kind 4 100 0;", 2, 0, Due.BAD, 0);
        call(" kind 0 99 0;", 2, 1, Due.BAD, 0);
        call("scale 0 0;", 2, 0, Due.BAD, 0);
        call("rule 3;rule 4;", 2, 7, Due.BAD, 1);
        call("come 10000;", 2, 0, Due.BAD, 0);
        call("come1;come1;come1;come1;come1;come1;  come1;", 3, 38, Due.FULL, 6);
        call("prize 0 1 1 1 1;", 2, 0, Due.BAD, 0);
        call("prize 1 1 0 1 1;".repeat(7), 3, 96, Due.FULL, 6);
        call("weigh 0 0 1;", 2, 0, Due.BAD, 0);
        call("come 1;weigh 0 0 0;", 2, 7, Due.BAD, 1);
        call("come 1;claim 0 1;", 3, 7, Due.STATE, 1);
        call("come 1;weigh 0 0 1;claim 0 1;", 3, 19, Due.STATE, 2);
        call("come 1;claim 0 10000;", 2, 7, Due.BAD, 1);
        call("come 1;buy 0 0 1;", 2, 7, Due.BAD, 1);
        call("come 1;prize 2 1 1 1 1;buy 0 0 1;", 3, 23, Due.STATE, 2);
        call("come 9;prize 2 1 1 1 1;buy 0 0 2;", 3, 23, Due.FULL, 2);
        // The commands are run one by one, so a call fails ahead of a later token.
        call("rule 4;rule ?", 2, 0, Due.BAD, 0);
    }

    private static void promise21Parts() {
        TicketScales x = new TicketScales();
        Due.due("failure(-1)", x.failure(-1), Due.BAD);
        Due.due("failure(5)", x.failure(5), Due.BAD);
        Due.due("failure(0)", x.failure(0), Due.NONE);
        Due.due("failure(4)", x.failure(4), Due.NONE);
        Due.run(x, "rule 1;rule 4;");
        Due.failure(x, "failure", 2, 7, Due.BAD, 1);
        Due.due("failure(5) then", x.failure(5), Due.BAD);
        Due.due("a run without a failure", Due.run(x, "rule 1;"), 1);
        Due.failure(x, "the latest failure stays", 2, 7, Due.BAD, 1);
        Due.run(x, "!");
        Due.failure(x, "a later one takes its place", 1, 0, Due.NONE, 0);
        x.clearText();
        Due.failure(x, "without the text", 1, 0, Due.NONE, 0);
    }
}
