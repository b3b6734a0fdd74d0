/** Promises 15 to 18: feed, rule, fault, force. */
public final class RuleTest {
    private static final int NONE = MarkTree.NONE, OUTSIDE = MarkTree.OUTSIDE, FULL = MarkTree.FULL;
    private static final Check check = new Check();

    public static void main(String[] args) {
        feed();
        rule();
        faults();
        faultStands();
        blanks();
        ninthClause();
        force();
        strikes();
        check.finish();
    }

    private static void feed() {
        MarkTree x = new MarkTree();
        check.due("feed 0", x.feed(0, 0), OUTSIDE);
        check.due("feed 9", x.feed(9, 0), OUTSIDE);
        check.due("feed -1", x.feed(-1, 0), OUTSIDE);
        for (int k = 1; k <= 19; k++) check.due("feed 8", x.feed(8, -1L), 8 * k);
        check.due("feed 7", x.feed(7, -1L), 159);
        check.due("feed 2 beyond", x.feed(2, 0), FULL);
        check.due("outside ahead of full", x.feed(9, 0), OUTSIDE);
        check.due("text stays", x.count(9), 159);
        check.due("feed the last", x.feed(1, 0), 160);
        check.due("feed one more", x.feed(1, 0), FULL);
        MarkTree y = new MarkTree();
        y.feed(5, 0x6b6b6d6f7374L);
        y.feed(2, 0xff2039L);
        y.feed(1, ';');
        check.due("the highest of these first", y.rule(0), -11);
        MarkTree z = new MarkTree();
        z.feed(4, 0x6b6d6f7374L);
        z.feed(2, 0xff2039L);
        z.feed(1, ';');
        check.due("higher bytes do not count", z.rule(0), 0);
        check.due("most", z.force(0, 0), 9);
    }

    private static void rule() {
        MarkTree x = new MarkTree();
        Check.text(x, "most 5;");
        check.due("rule -1", x.rule(-1), OUTSIDE);
        check.due("rule 10", x.rule(10), OUTSIDE);
        check.due("text stays", x.count(9), 7);
        check.due("rule 9", x.rule(9), 0);
        check.due("text is empty", x.count(9), 0);
        check.due("a text without clauses", x.rule(0), 1);
        check.due("blanks alone", Check.rule(x, 0, "   "), 2);
        check.due("a fault", Check.rule(x, 0, "most"), -11);
        check.due("no rule more", x.count(8), 3);
        for (int r = 3; r < 8; r++) check.due("more", Check.rule(x, 0, "most 6;"), r);
        Check.text(x, "most");
        check.due("a ninth rule", x.rule(0), FULL);
        check.due("outside ahead of full", x.rule(10), OUTSIDE);
        check.due("text stays when full", x.count(9), 4);
        check.due("fault of the latest that was read", x.fault(), NONE);
    }

    private static void faults() {
        MarkTree x = new MarkTree();
        check.faultyRule(x, "rule", 1, 0);
        check.faultyRule(x, "  keys 1 turns;", 1, 2);
        check.faultyRule(x, "ke", 1, 0);
        check.faultyRule(x, "Key 1 turns;", 1, 0);
        check.faultyRule(x, "kEy 1 turns;", 1, 0);
        check.faultyRule(x, "7", 1, 0);
        check.faultyRule(x, "777", 1, 0);
        check.faultyRule(x, ";", 1, 0);
        check.faultyRule(x, "key", 1, 3);
        check.faultyRule(x, "key turns", 1, 4);
        check.faultyRule(x, "key 6 turns;", 2, 4);
        check.faultyRule(x, "key 006", 2, 4);
        check.faultyRule(x, "key 01 ", 1, 7);
        check.faultyRule(x, "key 1 turn;", 1, 6);
        check.faultyRule(x, "key 1 2 turns;", 1, 6);
        check.faultyRule(x, "key 1 turns", 1, 11);
        check.faultyRule(x, "key 1 turns key", 1, 12);
        check.faultyRule(x, "key 1 turnskey 2 turns;", 1, 6);
        check.faultyRule(x, "allow 1 over 2;", 1, 8);
        check.faultyRule(x, "allow 1 under 40;", 2, 14);
        check.faultyRule(x, "allow 1 under 39 with 2;", 1, 17);
        check.faultyRule(x, "bar 1 with 6;", 2, 11);
        check.faultyRule(x, "bar 1 under 2;", 1, 6);
        check.faultyRule(x, "need 40 with 1;", 2, 5);
        check.faultyRule(x, "need 39 with 100;", 2, 13);
        check.faultyRule(x, "need 1, with", 1, 6);
        check.faultyRule(x, "most 0;", 2, 5);
        check.faultyRule(x, "most 21;", 2, 5);
        check.faultyRule(x, "most 12345678901234567890;", 2, 5);
        check.faultyRule(x, "most -1;", 1, 5);
        check.faultyRule(x, "most 1;\tmost 2;", 1, 7);
        check.faultyRule(x, "most 1;;", 1, 7);
        check.faultyRule(x, "strike 0;", 3, 7);
        check.faultyRule(x, "strike 99;", 3, 7);
        check.faultyRule(x, "strike 099;", 2, 7);
        check.faultyRule(x, "strike x", 1, 7);
        check.faultyRule(x, "strike 3 3", 3, 7);
        check.faultyRule(x, "most 1" + (char) 200, 1, 6);
        check.due("no rule came of it", x.count(8), 0);
        check.due("most is as at first", x.force(9, 0), 20);
    }

    private static void faultStands() {
        MarkTree x = new MarkTree();
        check.faultyRule(x, "most 1 1;", 1, 7);
        x.rule(10);
        check.due("fault after a refusal", x.fault(), 7);
        Check.rule(x, 0, "most 1;");
        check.due("fault after a good one", x.fault(), NONE);
        check.faultyAsk(x, "at 10", 2, 3);
        Check.ask(x, "at 9");
        check.due("fault after a good ask", x.fault(), NONE);
    }

    private static void blanks() {
        MarkTree x = new MarkTree();
        check.due("none at all", Check.rule(x, 0, "key0turns;allow1under2;bar3with4;need5with6;most7;"), 0);
        check.due("sense", x.force(0, 1), 1);
        check.due("strike without", Check.rule(x, 0, "strike0;"), 1);
        check.due("many", Check.rule(x, 0, "  key   05   raises  ;   "), 2);
        check.due("sense of 5", x.force(0, 6), 2);
        check.faultyRule(x, "key 0 tur ns;", 1, 6);
        check.faultyRule(x, "most 1 0;", 1, 7);
    }

    private static void ninthClause() {
        MarkTree x = new MarkTree();
        String eight = "most 1;most 2;most 3;most 4;most 5;most 6;most 7;most 8;";
        check.due("eight", Check.rule(x, 0, eight + " "), 0);
        check.due("the last rules", x.force(0, 0), 8);
        check.faultyRule(x, eight + "most 9;", 4, 56);
        check.faultyRule(x, eight + "  strike 9;", 4, 58);
        check.faultyRule(x, eight + "foo", 1, 56);
        check.faultyRule(x, eight + ";", 1, 56);
    }

    private static void force() {
        MarkTree x = new MarkTree();
        check.due("force -1", x.force(-1, 0), OUTSIDE);
        check.due("force 10", x.force(10, 0), OUTSIDE);
        check.due("force what -1", x.force(0, -1), OUTSIDE);
        check.due("force what 10", x.force(0, 10), OUTSIDE);
        for (int what = 1; what <= 9; what++) check.due("at first " + what, x.force(9, what), 0);
        Check.rule(x, 5, "most 5; key 0 turns; allow 1 under 1; bar 1 with 1; need 1 with 1;");
        Check.rule(x, 3, "most 3; key 0 raises; key 5 turns; allow 1 under 1; allow 2 under 9; need 1 with 1;");
        Check.rule(x, 5, "key 5 keeps; bar 2 with 3;");
        int[][] want = {{20, 0, 0, 0, 0, 0, 0, 0, 0, 0}, {3, 2, 0, 0, 0, 0, 1, 2, 0, 1}, {5, 1, 0, 0, 0, 0, 0, 3, 2, 2}};
        int[] editions = {2, 4, 9};
        for (int i = 0; i < editions.length; i++) {
            for (int what = 0; what < 10; what++) {
                check.due("force " + editions[i] + " " + what, x.force(editions[i], what), want[i][what]);
            }
        }
    }

    private static void strikes() {
        MarkTree x = new MarkTree();
        Check.rule(x, 0, "most 3;");
        Check.rule(x, 2, "strike 0;");
        check.due("before the strike", x.force(1, 0), 3);
        check.due("after the strike", x.force(2, 0), 20);
        Check.rule(x, 4, "strike 1; most 9;");
        check.due("the strike is struck", x.force(4, 0), 9);
        check.due("not yet", x.force(3, 0), 20);
        Check.rule(x, 5, "strike 2;");
        check.due("the striker of the striker is struck", x.force(5, 0), 20);
        Check.rule(x, 6, "strike 3; strike 2;");
        check.due("both are struck", x.force(6, 0), 20);
        Check.rule(x, 7, "strike 4;");
        check.due("3 counts again", x.force(7, 0), 20);
        Check.rule(x, 8, "strike 3; strike 5;");
        check.due("4 counts again", x.force(8, 0), 20);
        MarkTree y = new MarkTree();
        Check.rule(y, 6, "most 6;");
        Check.rule(y, 0, "strike 0; most 2;");
        check.due("a later one is struck ahead of its time", y.force(6, 0), 2);
        check.faultyRule(y, "strike 2;", 3, 7);
    }
}
