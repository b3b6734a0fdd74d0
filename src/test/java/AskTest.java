/** Promises 19 to 22: word, leads, ask, met. */
public final class AskTest {
    private static final int NONE = MarkTree.NONE, UNKNOWN = MarkTree.UNKNOWN, OUTSIDE = MarkTree.OUTSIDE;
    private static final int NOT = MarkTree.NOT, FULL = MarkTree.FULL;
    private static final Check check = new Check();

    public static void main(String[] args) {
        word();
        leads();
        ask();
        faults();
        brackets();
        longAsks();
        metRefusals();
        metByEach();
        metByJoins();
        metByEditions();
        check.finish();
    }

    private static void word() {
        MarkTree x = new MarkTree();
        for (int m = 1; m < 40; m++) x.mark(0);
        check.due("word unknown", x.word(4, 100, 40), UNKNOWN);
        check.due("word tongue", x.word(4, 0, 0), OUTSIDE);
        check.due("word tongue -1", x.word(-1, 0, 0), OUTSIDE);
        check.due("word 100", x.word(0, 100, 0), OUTSIDE);
        check.due("word -1", x.word(0, -1, 0), OUTSIDE);
        for (int m = 0; m < 40; m++) check.due("word leads", x.word(3, 99, m), m + 1);
        check.due("word twice", x.word(3, 99, 7), NOT);
        for (int w = 0; w < 20; w++) check.due("more words", x.word(w % 4, w, 5), 1);
        check.due("a word too many", x.word(0, 50, 0), FULL);
        check.due("not ahead of full", x.word(3, 99, 7), NOT);
        check.due("words told", x.count(10), 60);
    }

    private static void leads() {
        MarkTree x = new MarkTree();
        x.mark(0);
        x.mark(0);
        check.due("leads tongue 4", x.leads(4, 0), OUTSIDE);
        check.due("leads tongue -1", x.leads(-1, 0), OUTSIDE);
        check.due("leads word 100", x.leads(0, 100), OUTSIDE);
        check.due("leads word -1", x.leads(0, -1), OUTSIDE);
        check.due("loose", x.leads(0, 0), 0);
        x.word(0, 0, 2);
        check.due("one", x.leads(0, 0), 1);
        check.due("another tongue", x.leads(1, 0), 0);
        x.word(0, 0, 1);
        check.due("two", x.leads(0, 0), 2);
        x.word(0, 0, 0);
        check.due("three", x.leads(0, 0), 2);
    }

    private static void ask() {
        MarkTree x = new MarkTree();
        for (int a = 0; a < 7; a++) check.due("ask", Check.ask(x, "at " + a), a);
        check.due("ask without blanks", Check.ask(x, "not(at1or mark007)and word 3 99or before999and hand7"), 7);
        check.due("asks", x.count(11), 8);
        Check.text(x, "at");
        check.due("an ask too many", x.ask(), FULL);
        check.due("text stays", x.count(9), 2);
        check.due("fault of the latest that was read", x.fault(), NONE);
        Check.text(x, " ".repeat(99));
        check.due("too long, ahead of full", x.ask(), NOT);
        check.due("text stays when too long", x.count(9), 101);
    }

    private static void faults() {
        MarkTree x = new MarkTree();
        check.faultyAsk(x, "", 1, 0);
        check.faultyAsk(x, "   ", 1, 3);
        check.faultyAsk(x, "marks 1", 1, 0);
        check.faultyAsk(x, "mark", 1, 4);
        check.faultyAsk(x, "mark x", 1, 5);
        check.faultyAsk(x, "mark 40", 2, 5);
        check.faultyAsk(x, "mark 0001", 2, 5);
        check.faultyAsk(x, "mark 39 mark 39", 1, 8);
        check.faultyAsk(x, "mark 3 9", 1, 7);
        check.faultyAsk(x, "word 4 1", 2, 5);
        check.faultyAsk(x, "word 3", 1, 6);
        check.faultyAsk(x, "word 12", 2, 5);
        check.faultyAsk(x, "word 3 100", 2, 7);
        check.faultyAsk(x, "hand 8", 2, 5);
        check.faultyAsk(x, "before 1000", 2, 7);
        check.faultyAsk(x, "at 10", 2, 3);
        check.faultyAsk(x, "at 1 or", 1, 7);
        check.faultyAsk(x, "at 1 orat 2", 1, 5);
        check.faultyAsk(x, "at 1 or and", 1, 8);
        check.faultyAsk(x, "or at 1", 1, 0);
        check.faultyAsk(x, "at 1 not at 2", 1, 5);
        check.faultyAsk(x, "not", 1, 3);
        check.faultyAsk(x, "notat 1", 1, 0);
        check.faultyAsk(x, "at 1;", 1, 4);
        check.faultyAsk(x, "AT 1", 1, 0);
        check.faultyAsk(x, "1", 1, 0);
        check.faultyAsk(x, "at 1" + (char) 0, 1, 4);
        check.due("no ask came of it", x.count(11), 0);
    }

    private static void brackets() {
        MarkTree x = new MarkTree();
        check.faultyAsk(x, "()", 1, 1);
        check.faultyAsk(x, "(at 1", 1, 5);
        check.faultyAsk(x, "at 1)", 1, 4);
        check.faultyAsk(x, "(at 1))", 1, 6);
        check.faultyAsk(x, "at 1 (at 2)", 1, 5);
        check.faultyAsk(x, "((((( (at 1))))))", 5, 6);
        check.faultyAsk(x, "(((((at 1(", 1, 9);
        check.faultyAsk(x, "((((not (at 1 or (", 5, 17);
        check.due("five", Check.ask(x, "(((((at 1)))))"), 0);
        check.due("five, closed and opened again", Check.ask(x, "((((( at 1)and(at 2)))))or(((((at 3)))))"), 1);
    }

    private static void longAsks() {
        MarkTree x = new MarkTree();
        x.picture(0, 1, NONE);
        check.due("many nots", Check.ask(x, "not ".repeat(24) + "at 1"), 0);
        check.due("an even number", x.met(0, 0, NONE), 1);
        check.due("many nots more", Check.ask(x, "not ".repeat(23) + "at 1"), 1);
        check.due("an odd number", x.met(1, 0, NONE), 0);
        check.due("many ors", Check.ask(x, "at0or ".repeat(16) + "at 1"), 2);
        check.due("the last one", x.met(2, 0, NONE), 1);
        check.due("deep to the right", Check.ask(x, "at1and(at1and(at1and(at1and(at1and not not not at2or at0))))"), 3);
        check.due("deep to the right is met", x.met(3, 0, NONE), 1);
    }

    private static MarkTree some() {
        MarkTree x = new MarkTree();
        x.mark(0);
        x.mark(1);
        x.mark(0);
        for (int p = 0; p < 6; p++) x.picture(100 * p, p % 3, NONE);
        x.give(0, 2, 0, 0);
        x.give(1, 1, 1, 0);
        x.give(2, 3, 0, 0);
        x.give(3, 2, 2, 0);
        x.give(3, 3, 2, 0);
        return x;
    }

    private static void metRefusals() {
        MarkTree x = some();
        check.due("met unknown", x.met(0, 9, 0), UNKNOWN);
        Check.ask(x, "mark 0");
        check.due("met unknown 1", x.met(1, 0, 0), UNKNOWN);
        check.due("met unknown -1", x.met(-1, 0, 0), UNKNOWN);
        check.due("met edition", x.met(0, 1, 0), OUTSIDE);
        check.due("met edition -1", x.met(0, -1, 0), OUTSIDE);
        check.due("met how many", x.met(0, 0, NONE), 4);
        check.due("met the last", x.met(0, 0, 3), 3);
        check.due("met none such", x.met(0, 0, 4), NONE);
        check.due("met far", x.met(0, 0, Integer.MAX_VALUE), NONE);
        check.due("met none below", x.met(0, 0, -2), NONE);
        check.due("met none far below", x.met(0, 0, Integer.MIN_VALUE), NONE);
    }

    /** The set of pictures met. */
    private static void met(MarkTree x, String ask, int... want) {
        int a = Check.ask(x, ask);
        check.due("'" + ask + "': how many", x.met(a, 0, NONE), want.length);
        for (int i = 0; i < want.length; i++) check.due("'" + ask + "' " + i, x.met(a, 0, i), want[i]);
    }

    private static void metByEach() {
        MarkTree x = some();
        x.word(1, 50, 2);
        x.word(1, 50, 3);
        met(x, "mark 1", 0, 1, 3);
        met(x, "mark 39");
        met(x, "word 1 50", 0, 2, 3);
        met(x, "word 2 50");
        met(x, "hand 0", 0, 2);
        met(x, "before 300", 0, 1, 2);
        met(x, "before 0");
        met(x, "at 2", 2, 5);
    }

    private static void metByJoins() {
        MarkTree x = some();
        met(x, "not mark 0", 4, 5);
        met(x, "mark 2 and mark 3", 3);
        met(x, "mark 2 or mark 3", 0, 2, 3);
        met(x, "at 0 or at 1 and before 200", 0, 1, 3);
        met(x, "(at 0 or at 1) and before 200", 0, 1);
        met(x, "not at 0 and not (at 1 or before 300)", 5);
        met(x, "not at 0 or at 0", 0, 1, 2, 3, 4, 5);
        met(x, "at 2 and at 1 or at 2 and not before 500 or hand 1", 1, 5);
    }

    private static void metByEditions() {
        MarkTree x = some();
        Check.ask(x, "hand 5 or word 0 0");
        x.edition();
        x.give(5, 1, 5, 0);
        check.due("by hand in 1", x.met(0, 1, 0), 5);
        check.due("by hand in 0", x.met(0, 0, NONE), 0);
        x.word(0, 0, 3);
        check.due("a word told later", x.met(0, 0, NONE), 2);
        x.doubt(2, 1);
        x.doubt(2, 2);
        check.due("doubted in 1", x.met(0, 1, NONE), 2);
        check.due("not in 0", x.met(0, 0, NONE), 2);
        check.due("first in 1", x.met(0, 1, 0), 3);
        Check.ask(x, "hand 0");
        check.due("a giving that means nothing is a giving", x.met(1, 1, NONE), 2);
    }
}
