/** Edges of what the terms say: by then, in the same edition, just as many, none, the first of like ones. */
public final class TermsTest {
    private static final int NONE = MarkTree.NONE, NOT = MarkTree.NOT;
    private static final Check check = new Check();

    public static void main(String[] args) {
        toldAndEndedInOne();
        movesOfOneEdition();
        movesKeepEarlierEditions();
        belowThroughEnded();
        notToldByThen();
        joinedByThen();
        splitByThen();
        raisedByEditions();
        senseOfItsOwnEdition();
        wrongForTheFirst();
        wrongByAllow();
        wrongByBars();
        wrongByMost();
        wrongMeansNothing();
        doubtsByThen();
        lacksByEditions();
        lacksItself();
        strikesByEditions();
        strikesOfStrikes();
        looksOfSeveralEditions();
        metByYears();
        metByWords();
        joinsOfAsks();
        handsSaw();
        missedIsCut();
        beyondChance();
        likelyOrder();
        lackingOfFamilies();
        sureOfOne();
        bestSplit();
        check.finish();
    }

    /** Marks 1, 2 under the root, 3 under 1, 4 under 3; that many pictures. */
    private static MarkTree some(int pictures) {
        MarkTree x = new MarkTree();
        x.mark(0);
        x.mark(0);
        x.mark(1);
        x.mark(3);
        for (int p = 0; p < pictures; p++) x.picture(p, p % 10, NONE);
        return x;
    }

    // ---- the tree

    private static void toldAndEndedInOne() {
        MarkTree x = some(1);
        x.edition();
        x.mark(2);
        x.end(5, NONE);
        x.edition();
        for (int e = 0; e <= 2; e++) {
            check.due("there in none: " + e, x.tree(5, e, 0), 0);
            check.due("told in 1", x.tree(5, e, 4), 1);
            check.due("ended in 1", x.tree(5, e, 5), 1);
            check.due("below 2 in " + e, x.below(5, 2, e), e == 0 ? 0 : 1);
            check.due("parent in " + e, x.tree(5, e, 1), e == 0 ? NONE : 2);
        }
        check.due("it may be given", x.give(0, 5, 0, 0), 0);
        check.due("but is wrong", x.told(0, 5), 1);
    }

    private static void movesOfOneEdition() {
        MarkTree x = some(0);
        x.edition();
        x.mark(1);
        check.due("moved as soon as told", x.move(5, 2), 1);
        check.due("the last holds", x.tree(5, 1, 1), 2);
        check.due("moved again", x.move(5, 4), 2);
        check.due("and back", x.move(5, 1), 4);
        check.due("where it was told", x.tree(5, 1, 1), 1);
        check.due("not told by 0", x.tree(5, 0, 1), NONE);
        check.due("1 is moved", x.move(1, 2), 0);
        check.due("what it is above", x.move(2, 5), NOT);
        check.due("1 is moved back", x.move(1, 0), 2);
        check.due("then 2 may go there", x.move(2, 5), 0);
        check.due("it is below 1", x.below(2, 1, 1), 1);
        check.due("not in 0", x.below(2, 1, 0), 0);
    }

    private static void movesKeepEarlierEditions() {
        MarkTree x = some(0);
        int[] parents = {1, 0, 2, 2, 1, 0, 1, 2, 0, 1};
        for (int e = 1; e <= 9; e++) {
            x.edition();
            check.due("moved in " + e, x.move(3, parents[e]), parents[e - 1]);
        }
        for (int e = 0; e <= 9; e++) {
            check.due("parent in " + e, x.tree(3, e, 1), parents[e]);
            check.due("4 below 1 in " + e, x.below(4, 1, e), parents[e] == 1 ? 1 : 0);
            check.due("4 below 2 in " + e, x.below(4, 2, e), parents[e] == 2 ? 1 : 0);
            check.due("below 1 in " + e, x.tree(1, e, 2), parents[e] == 1 ? 3 : 1);
        }
    }

    private static void belowThroughEnded() {
        MarkTree x = some(0);
        x.edition();
        x.end(3, NONE);
        check.due("through one that ended", x.below(4, 1, 1), 1);
        check.due("below it", x.tree(3, 1, 2), 2);
        check.due("a parent that ended stays the parent", x.tree(4, 1, 1), 3);
        check.due("the ended one keeps its own", x.tree(3, 1, 1), 1);
        check.due("moved away from it", x.move(4, 2), 3);
        check.due("below it then", x.tree(3, 1, 2), 1);
        check.due("ended ones are not moved back", x.move(4, 3), NOT);
        check.due("1 under what is below an ended one of it", x.move(4, 1), 2);
        check.due("1 may not go under 4", x.move(1, 4), NOT);
    }

    private static void notToldByThen() {
        MarkTree x = some(2);
        x.give(0, 1, 0, 0);
        x.edition();
        x.mark(0);
        x.mark(5);
        check.due("it is below itself", x.below(6, 6, 0), 1);
        check.due("but not below its parent", x.below(6, 5, 0), 0);
        check.due("nor below the root", x.below(6, 0, 0), 0);
        check.due("below it: it alone", x.tree(5, 0, 2), 1);
        check.due("below the root those of then", x.tree(0, 0, 2), 5);
        check.due("below the root those of now", x.tree(0, 1, 2), 7);
        check.due("none shows it", x.tree(5, 0, 6), 0);
        check.due("not led to it", x.led(0, 5, 0), NONE);
        check.due("it goes along with none", x.along(5, 0, NONE), 0);
        check.due("it is no mark for a split", x.split(1, 0, 0), 2);
        check.due("its own split: the root is above none of then", x.split(5, 0, 0), 0);
        check.due("by none", x.split(5, 0, 1), 0);
    }

    // ---- what givings mean

    private static void joinedByThen() {
        MarkTree x = some(2);
        x.give(0, 3, 0, 0);
        x.give(1, 2, 0, 0);
        x.edition();
        x.edition();
        x.end(3, 2);
        x.edition();
        x.end(2, 4);
        int[] want = {3, 3, 2, 4}, other = {2, 2, 2, 4};
        for (int e = 0; e <= 3; e++) {
            check.due("joined by " + e, x.means(0, e, 0), want[e]);
            check.due("the one joined later, " + e, x.means(1, e, 0), other[e]);
            check.due("no look, " + e, x.means(0, e, 1), 0);
        }
        check.due("what it was joined to", x.tree(3, 3, 3), 2);
        check.due("shown through 3, that ended", x.led(0, 3, 3), 0);
        check.due("and through 1", x.led(1, 1, 3), 1);
        check.due("not in 2", x.led(1, 1, 2), NONE);
        x.end(4, NONE);
        check.due("joined, joined, then split: over 3 to 1", x.means(0, 3, 0), 1);
        check.due("a look", x.means(0, 3, 1), 1);
        check.due("in 2 as ever", x.means(0, 2, 0), 2);
    }

    private static void splitByThen() {
        MarkTree x = some(1);
        x.give(0, 4, 0, 0);
        x.edition();
        x.move(4, 2);
        x.edition();
        x.end(4, NONE);
        x.edition();
        x.move(2, 3);
        x.end(2, 1);
        check.due("not yet split", x.means(0, 1, 0), 4);
        check.due("split: above it by parents of 2", x.means(0, 2, 0), 2);
        check.due("one above that is joined is passed by, not followed", x.means(0, 3, 0), 3);
        check.due("look in 1", x.means(0, 1, 1), 0);
        check.due("look in 2", x.means(0, 2, 1), 1);
        check.due("look in 3", x.means(0, 3, 1), 1);
        check.due("look now", x.count(6), 1);
        x.doubt(0, 1);
        check.due("look with one doubt", x.count(6), 1);
        x.doubt(0, 2);
        check.due("what means nothing needs no look", x.count(6), 0);
        check.due("nor when asked for", x.means(0, 3, 1), 0);
        check.due("in 2 it does", x.means(0, 2, 1), 1);
        check.due("now it does not", x.means(0, 3, 1), 0);
    }

    private static void raisedByEditions() {
        MarkTree x = some(1);
        Check.rule(x, 0, "key 0 raises;");
        x.give(0, 4, 0, 1);
        x.give(0, 1, 0, 1);
        x.give(0, 0, 0, 1);
        x.edition();
        x.end(3, 2);
        check.due("raised to one that ended: not followed", x.means(0, 1, 0), 3);
        check.due("no look", x.means(0, 1, 1), 0);
        x.end(4, NONE);
        check.due("split, over 3, then raised", x.means(0, 1, 0), 0);
        check.due("a look", x.means(0, 1, 1), 1);
        check.due("to the root", x.means(1, 1, 0), 0);
        check.due("the root stays", x.means(2, 1, 0), 0);
        check.due("in 0", x.means(0, 0, 0), 3);
        x.edition();
        x.end(1, 2);
        x.move(2, 0);
        check.due("joined, then raised", x.means(1, 2, 0), 0);
    }

    private static void senseOfItsOwnEdition() {
        MarkTree x = some(1);
        Check.rule(x, 1, "key 0 turns; key 1 raises;");
        Check.rule(x, 2, "key 0 keeps; key 1 keeps;");
        for (int e = 0; e <= 2; e++) {
            x.give(0, 4, 0, 1);
            x.give(0, 4, 0, 2);
            if (e < 2) x.edition();
        }
        int[] want = {4, 4, NONE, 3, 4, 4};
        for (int g = 0; g < want.length; g++) check.due("sense of giving " + g, x.means(g, 2, 0), want[g]);
        Check.rule(x, 0, "key 1 turns;");
        check.due("a rule that comes later for 0", x.means(1, 2, 0), NONE);
        check.due("is followed by that of 1", x.means(3, 2, 0), 3);
    }

    private static void wrongForTheFirst() {
        MarkTree x = some(1);
        Check.rule(x, 0, "most 1; allow 0 under 2; bar 0 with 1;");
        x.mark(0);
        x.end(5, NONE);
        x.give(0, 2, 0, 1);
        int[][] tries = {{5, 3, 1}, {5, 0, 1}, {4, 3, 2}, {4, 1, 2}, {2, 3, 3}, {4, 2, 4}, {2, 1, 4}, {4, 0, 4}};
        for (int[] one : tries) {
            int g = x.give(0, one[0], 0, one[1]);
            check.due("why mark " + one[0] + " with keys " + one[1] + " is wrong", x.told(g, 5), one[2]);
        }
        check.due("wrong ones", x.count(5), tries.length);
        check.due("the first is not", x.told(0, 5), 0);
    }

    private static void wrongByAllow() {
        MarkTree x = some(2);
        Check.rule(x, 0, "allow 0 under 2; allow 0 under 3; allow 5 under 0; allow 4 under 39;");
        int[][] tries = {{0, 1, 2}, {1, 1, 2}, {2, 1, 0}, {3, 1, 0}, {4, 1, 0}, {0, 32, 0}, {4, 32, 0}, {4, 16, 2},
            {4, 17, 2}, {1, 33, 2}, {1, 2, 0}, {1, 0, 0}, {4, 63, 2}, {4, 47, 0}};
        for (int[] one : tries) {
            int g = x.give(0, one[0], 0, one[1]);
            check.due("mark " + one[0] + " with keys " + one[1], x.told(g, 5), one[2]);
        }
        x.edition();
        x.move(3, 2);
        Check.rule(x, 1, "strike 0; allow 0 under 1;");
        x.give(1, 4, 0, 1);
        x.give(1, 1, 0, 1);
        check.due("below by the tree of 1", x.told(14, 5), 2);
        check.due("1 itself", x.told(15, 5), 0);
        check.due("given in 0: by the tree of 0", x.told(4, 5), 0);
    }

    private static void wrongByBars() {
        for (int a = 0; a <= 5; a++) {
            for (int b = 0; b <= 5; b++) {
                if (a == b) continue;
                MarkTree x = some(1);
                Check.rule(x, 0, "bar " + a + " with " + b + ";");
                x.give(0, 1, 0, 1 << a);
                x.give(0, 1, 0, 1 << b);
                x.give(0, 1, 0, 1 << a | 1 << b);
                x.give(0, 1, 0, 63 & ~(1 << a));
                x.give(0, 1, 0, 63 & ~(1 << b));
                x.give(0, 1, 0, 63);
                int[] want = {0, 0, 3, 0, 0, 3};
                for (int g = 0; g < want.length; g++) check.due("bar " + a + " with " + b + ": " + g, x.told(g, 5), want[g]);
            }
        }
        MarkTree y = some(1);
        Check.rule(y, 0, "bar 0 with 1;");
        Check.rule(y, 1, "strike 0;");
        y.give(0, 1, 0, 3);
        y.edition();
        y.give(0, 1, 0, 3);
        check.due("barred in 0", y.told(0, 5), 3);
        check.due("not in 1", y.told(1, 5), 0);
    }

    /** Wrong ones do not count; doubted and turned ones do, and those of other pictures do not. */
    private static void wrongByMost() {
        MarkTree x = some(2);
        Check.rule(x, 0, "most 2; key 0 turns; bar 1 with 2;");
        x.give(0, 1, 0, 6);
        x.give(0, 1, 0, 1);
        x.give(1, 1, 0, 0);
        x.give(0, 1, 0, 0);
        x.doubt(3, 1);
        x.doubt(3, 2);
        x.give(0, 1, 0, 0);
        int[] want = {3, 0, 0, 0, 4};
        for (int g = 0; g < want.length; g++) check.due("most 2: " + g, x.told(g, 5), want[g]);
        Check.rule(x, 0, "most 3;");
        check.due("most 3 comes later", x.told(4, 5), 0);
        Check.rule(x, 0, "most 1;");
        int[] then = {3, 0, 0, 4, 4};
        for (int g = 0; g < then.length; g++) check.due("most 1: " + g, x.told(g, 5), then[g]);
    }

    private static void wrongMeansNothing() {
        MarkTree x = some(1);
        Check.rule(x, 0, "most 1;");
        x.give(0, 1, 0, 0);
        x.give(0, 2, 0, 0);
        check.due("wrong", x.told(1, 5), 4);
        check.due("means nothing", x.means(1, 0, 0), NONE);
        check.due("needs no look", x.means(1, 0, 1), 0);
        check.due("leads to nothing", x.led(0, 2, 0), NONE);
        check.due("the other hand gave nothing yet", x.hands(0, 1, 2, 0, 0), 0);
        x.give(0, 2, 1, 0);
        check.due("a wrong one is a giving all the same", x.hands(0, 1, 0, 0, 0), 1);
        check.due("but by it nothing is seen", x.hands(0, 1, 0, 0, 2), 0);
    }

    private static void doubtsByThen() {
        MarkTree x = some(1);
        x.give(0, 1, 0, 0);
        x.edition();
        x.doubt(0, 1);
        x.edition();
        x.doubt(0, 2);
        x.edition();
        x.doubt(0, 3);
        int[] want = {1, 1, NONE, NONE};
        for (int e = 0; e <= 3; e++) check.due("doubted by " + e, x.means(0, e, 0), want[e]);
        check.due("all that doubt it", x.told(0, 6), 3);
    }

    private static void lacksByEditions() {
        MarkTree x = some(2);
        Check.rule(x, 1, "need 1 with 2;");
        Check.rule(x, 3, "strike 0;");
        x.give(0, 4, 0, 0);
        x.edition();
        x.edition();
        x.give(0, 2, 0, 0);
        x.edition();
        int[] want = {0, 1, 0, 0};
        for (int e = 0; e <= 3; e++) check.due("lacks in " + e, x.means(0, e, 2), want[e]);
        check.due("now none does", x.count(7), 0);
        Check.rule(x, 3, "need 4 with 1; need 4 with 39;");
        check.due("first of two needs is met, the other not", x.means(0, 3, 2), 1);
        check.due("looked at in 1", x.means(0, 1, 2), 1);
        check.due("one lacks now, the first giving", x.count(7), 1);
        check.due("in 2 again", x.means(0, 2, 2), 0);
        MarkTree y = some(1);
        Check.rule(y, 0, "need 1 with 2;");
        y.give(0, 4, 0, 0);
        check.due("lacks, counted in 0", y.count(7), 1);
        y.edition();
        y.give(0, 2, 0, 0);
        check.due("it lacked in 0", y.means(0, 0, 2), 1);
        check.due("none does now, though 0 was looked at", y.count(7), 0);
    }

    private static void lacksItself() {
        MarkTree x = some(1);
        Check.rule(x, 0, "need 1 with 1; need 2 with 0; key 0 turns;");
        x.give(0, 3, 0, 0);
        check.due("what it shows itself", x.means(0, 0, 2), 0);
        x.doubt(0, 1);
        x.doubt(0, 2);
        check.due("when it shows it no more", x.means(0, 0, 2), 1);
        x.give(0, 2, 0, 1);
        check.due("a turned one lacks too", x.means(1, 0, 2), 1);
        x.give(0, 0, 0, 0);
        check.due("the root is shown", x.means(1, 0, 2), 0);
        check.due("not below 1 or 2", x.means(2, 0, 2), 0);
        check.due("lack now", x.count(7), 1);
    }

    // ---- rules

    private static void strikesByEditions() {
        MarkTree x = new MarkTree();
        Check.rule(x, 3, "most 3; key 1 turns; allow 1 under 1; bar 1 with 2; need 1 with 2;");
        Check.rule(x, 6, "strike 0;");
        for (int e = 0; e <= 9; e++) {
            boolean holds = e >= 3 && e < 6;
            check.due("most in " + e, x.force(e, 0), holds ? 3 : 20);
            check.due("sense in " + e, x.force(e, 2), holds ? 1 : 0);
            for (int what = 7; what <= 9; what++) check.due(what + " in " + e, x.force(e, what), holds ? 1 : 0);
        }
        Check.rule(x, 6, "most 9; strike 1; strike 1;");
        check.due("the strike is struck from 6 on: most", x.force(6, 0), 9);
        check.due("and the rest of it holds", x.force(6, 2), 1);
        check.due("in 5 as before", x.force(5, 0), 3);
    }

    /** A strike counts from its own edition on, so what it struck counts ahead of it. */
    private static void strikesOfStrikes() {
        MarkTree x = new MarkTree();
        Check.rule(x, 0, "most 1;");
        Check.rule(x, 1, "strike 0; most 2;");
        Check.rule(x, 2, "strike 1; most 3;");
        Check.rule(x, 3, "strike 2; most 4;");
        Check.rule(x, 4, "strike 3;");
        int[] want = {1, 2, 3, 4, 3, 3, 3, 3, 3, 3};
        for (int e = 0; e <= 9; e++) check.due("most in " + e, x.force(e, 0), want[e]);
        Check.rule(x, 5, "strike 2; strike 4;");
        check.due("3 counts again, 2 is struck twice", x.force(5, 0), 4);
        Check.rule(x, 0, "strike 3; strike 5;");
        check.due("from 0 on: 3 and 5 are struck", x.force(5, 0), 3);
        check.due("in 3", x.force(3, 0), 3);
    }

    // ---- looks

    /** What one edition answers is not what was looked at last in another. */
    private static void looksOfSeveralEditions() {
        MarkTree x = some(3);
        Check.rule(x, 1, "need 2 with 1;");
        x.give(0, 1, 0, 0);
        x.give(0, 2, 1, 0);
        x.give(1, 2, 0, 0);
        x.story();
        x.moment(0, 0, 2);
        Check.ask(x, "mark 2");
        x.edition();
        x.end(2, NONE);
        Call[] calls = {new Call("tree", 2, 0, 6), new Call("means", 1, 0, 0), new Call("led", 0, 2, 0),
            new Call("met", 0, 0, NONE), new Call("hands", 0, 1, 2, 0, 2), new Call("together", 1, 2, 0, 0, 999, 1),
            new Call("along", 1, 0, NONE), new Call("likely", 1, 0, NONE), new Call("lacking", 0, 0),
            new Call("of", 0, 0, 0, 0), new Call("split", 1, 0, 0)};
        int[] at = {1, 1, 2, 1, 3, 2, 1, 1, 1, 2, 1}, first = {2, 2, 1, 2, 1, 2, 1, 1, 0, 1, 2};
        int[] then = {0, 0, NONE, 0, 0, 0, 0, 0, 0, 0, NONE};
        for (int k = 0; k < calls.length; k++) {
            for (int turn = 0; turn < 2; turn++) {
                check.due(calls[k] + " in 0", calls[k].on(x), first[k]);
                check.due(calls[k] + " in 1", calls[k].with(at[k], 1).on(x), then[k]);
            }
            x.means(0, 0, 0);
            check.due("a look is needed now, though 0 was looked at", x.count(6), 2);
            x.means(0, 0, 0);
            check.due("lack now, though 0 was looked at", x.count(7), 1);
        }
        check.due("likely in 1, behind a look in 0", x.likely(2, 1, NONE), 0);
        x.means(0, 0, 0);
        check.due("likely in 1, behind another one", x.likely(1, 1, NONE), 0);
    }

    private static void metByYears() {
        MarkTree x = new MarkTree();
        int[] years = {0, 1, 499, 500, 501, 998, 999};
        for (int year : years) x.picture(year, 0, NONE);
        int[][] tries = {{0, 0}, {1, 1}, {2, 2}, {499, 2}, {500, 3}, {501, 4}, {998, 5}, {999, 6}};
        for (int a = 0; a < tries.length; a++) {
            check.due("ask", Check.ask(x, "before " + tries[a][0]), a);
            check.due("before " + tries[a][0], x.met(a, 0, NONE), tries[a][1]);
            check.due("the last of these", x.met(a, 0, tries[a][1] - 1), tries[a][1] == 0 ? 0 : tries[a][1] - 1);
            check.due("and no more", x.met(a, 0, tries[a][1]), NONE);
        }
    }

    private static void metByWords() {
        MarkTree x = some(3);
        x.give(0, 4, 0, 0);
        x.give(1, 2, 0, 0);
        Check.ask(x, "word 2 07");
        Check.ask(x, "not word 002 7");
        check.due("a loose word meets none", x.met(0, 0, NONE), 0);
        check.due("not a loose word meets all", x.met(1, 0, NONE), 3);
        x.word(2, 7, 3);
        check.due("one", x.met(0, 0, NONE), 1);
        x.word(2, 7, 2);
        check.due("double: either", x.met(0, 0, NONE), 2);
        x.word(2, 7, 0);
        check.due("the root changes nothing here", x.met(0, 0, NONE), 2);
        x.word(2, 8, 0);
        x.word(1, 7, 0);
        check.due("not by it", x.met(1, 0, 0), 2);
    }

    private static void joinsOfAsks() {
        MarkTree x = new MarkTree();
        for (int p = 0; p < 8; p++) x.picture(p < 4 ? 0 : 5, p % 4, NONE);
        String[] asks = {"at 0 or at 1 and before 1", "(at 0 or at 1) and before 1", "before 1 and at 0 or at 1",
            "not at 0 and before 1", "not (at 0 and before 1)", "not at 0 or before 1", "not not at 0",
            "at 0 or at 1 or at 2 and at 3"};
        int[] want = {0b00010011, 0b00000011, 0b00100011, 0b00001110, 0b11111110, 0b11101111, 0b00010001, 0b00110011};
        for (int a = 0; a < asks.length; a++) {
            check.due("ask '" + asks[a] + "'", Check.ask(x, asks[a]), a);
            int set = 0;
            for (int i = 0; i < x.met(a, 0, NONE); i++) set |= 1 << x.met(a, 0, i);
            check.due("met by '" + asks[a] + "'", set, want[a]);
        }
    }

    private static void handsSaw() {
        MarkTree x = some(4);
        x.give(0, 4, 0, 0);
        x.give(0, 2, 0, 0);
        x.give(0, 2, 1, 0);
        x.give(1, 1, 0, 0);
        x.give(2, 1, 1, 0);
        x.give(3, 2, 0, 0);
        x.give(3, 3, 1, 0);
        int[] want = {2, 1, 1, 0, NONE};
        for (int what = 0; what <= 4; what++) check.due("hands for 1: " + what, x.hands(0, 1, 1, 0, what), want[what]);
        int[] two = {2, 2, 1, 1, 0};
        for (int what = 0; what <= 4; what++) check.due("hands for 2: " + what, x.hands(0, 1, 2, 0, what), two[what]);
        int[] turned = {2, 1, 2, 1, 0};
        for (int what = 0; what <= 4; what++) check.due("hands turned: " + what, x.hands(1, 0, 2, 0, what), turned[what]);
    }

    private static void missedIsCut() {
        for (int both = 1; both <= 7; both++) {
            MarkTree x = some(20);
            for (int p = 0; p < both + 6; p++) {
                boolean one = p < both + 3, other = p < both || p >= both + 3;
                x.give(p, one ? 1 : 2, 3, 0);
                x.give(p, other ? 1 : 2, 4, 0);
            }
            check.due("missed of " + both, x.hands(3, 4, 1, 0, 4), 9 / both);
            check.due("both", x.hands(3, 4, 1, 0, 3), both);
        }
    }

    /** z n above x y: just as many is not beyond. */
    private static void beyondChance() {
        MarkTree x = some(10);
        check.due("none shows anything", x.together(1, 2, 0, 0, 999, 4), 0);
        for (int p = 0; p < 4; p++) x.give(p, 1, 0, 0);
        for (int p = 2; p < 7; p++) x.give(p, 2, 0, 0);
        check.due("2 times 10 is 4 times 5", x.together(1, 2, 0, 0, 999, 4), 0);
        check.due("it goes along with none", x.along(1, 0, NONE), 0);
        check.due("2 times 9 is below 4 times 5", x.together(1, 2, 0, 0, 8, 4), 0);
        check.due("2 times 9 is above 3 times 5", x.together(1, 2, 0, 1, 999, 4), 1);
        check.due("no picture", x.together(1, 2, 0, 10, 999, 4), 0);
        x.picture(999, 0, NONE);
        check.due("2 times 11 is above 4 times 5", x.together(1, 2, 0, 0, 999, 4), 1);
        check.due("it goes along", x.along(1, 0, 0), 2);
        check.due("with one", x.along(1, 0, NONE), 1);
        check.due("but not without the last year", x.together(1, 2, 0, 0, 998, 4), 0);
        check.due("a mark with itself", x.together(1, 1, 0, 0, 999, 4), 1);
        check.due("the one that all show, with itself", x.together(0, 0, 0, 2, 3, 4), 0);
    }

    private static void likelyOrder() {
        MarkTree x = new MarkTree();
        for (int m = 1; m <= 4; m++) x.mark(0);
        for (int p = 0; p < 9; p++) x.picture(0, 0, NONE);
        for (int p = 7; p < 9; p++) for (int m = 1; m <= 4; m++) x.give(p, m, 0, 0);
        int[][] others = {{2}, {}, {2, 3, 4}, {3, 4}, {}, {2, 4}, {4}};
        for (int p = 0; p < others.length; p++) for (int m : others[p]) x.give(p, m, 0, 0);
        int[] want = {2, 3, 5, 0, 6};
        check.due("along with 1", x.along(1, 0, NONE), 3);
        check.due("likely", x.likely(1, 0, NONE), want.length);
        for (int i = 0; i < want.length; i++) check.due("likely " + i, x.likely(1, 0, i), want[i]);
        check.due("those that show none are left out", x.likely(1, 0, want.length), NONE);
        x.give(2, 1, 0, 0);
        check.due("one that shows it is left out", x.likely(1, 0, 0), 3);
    }

    private static void lackingOfFamilies() {
        MarkTree x = some(0);
        x.picture(0, 0, NONE);
        x.picture(0, 0, NONE);
        x.picture(0, 0, 0);
        x.picture(0, 0, 1);
        x.picture(0, 0, 2);
        x.give(4, 3, 0, 0);
        x.give(3, 2, 0, 0);
        x.give(0, 0, 0, 0);
        check.due("what a copy of a copy means", x.lacking(0, 0), 1 << 3);
        check.due("the other family", x.lacking(1, 0), 1 << 2);
        check.due("between, without givings", x.lacking(2, 0), 1 | 1 << 3);
        check.due("what it means alone", x.lacking(3, 0), 0);
        check.due("what it shows by one below", x.lacking(4, 0), 0);
        x.give(0, 4, 0, 0);
        check.due("above what it shows", x.lacking(0, 0), 0);
        check.due("below what it shows", x.lacking(4, 0), 1 << 4);
    }

    private static void sureOfOne() {
        MarkTree x = some(4);
        x.story();
        x.story();
        for (int p = 0; p < 4; p++) check.due("no moments", x.of(p, 0, 0, 0), 0);
        x.moment(0, 0, 2);
        x.moment(0, 1, 1);
        x.moment(0, 2, 3);
        x.moment(0, 2, 3);
        x.give(1, 1, 0, 0);
        x.give(2, 4, 0, 0);
        x.give(3, 4, 0, 0);
        x.give(3, 2, 0, 0);
        int[][] want = {{0, NONE, 0}, {1, 1, 1}, {2, 1, 0}, {3, 0, 0}};
        for (int p = 0; p < 4; p++) {
            for (int what = 0; what <= 2; what++) check.due("picture " + p + ": " + what, x.of(p, 0, 0, what), want[p][what]);
            check.due("the other story", x.of(p, 1, 0, 0), 0);
        }
        x.moment(0, 1, 2);
        check.due("a mark more makes it none", x.of(1, 0, 0, 0), 0);
        check.due("none is not sure", x.of(1, 0, 0, 2), 0);
        check.due("then sure", x.of(2, 0, 0, 2), 1);
    }

    private static void bestSplit() {
        MarkTree x = new MarkTree();
        check.due("the root alone", x.split(0, 0, 0), NONE);
        check.due("the root alone, number", x.split(0, 0, 1), NONE);
        for (int m = 1; m <= 4; m++) x.mark(0);
        x.mark(1);
        for (int p = 0; p < 6; p++) {
            x.picture(0, 0, NONE);
            x.give(p, 5, 0, 0);
            x.give(p, 2, 0, 0);
        }
        check.due("all of them: of like ones the least", x.split(1, 0, 0), 2);
        check.due("all of them", x.split(1, 0, 1), 6);
        x.give(0, 4, 0, 0);
        check.due("one against five", x.split(1, 0, 0), 4);
        check.due("the greater", x.split(1, 0, 1), 5);
        for (int p = 0; p < 5; p++) x.give(p, 3, 0, 0);
        check.due("five against one is like it", x.split(1, 0, 0), 3);
        for (int p = 1; p < 3; p++) x.give(p, 4, 0, 0);
        check.due("three against three", x.split(1, 0, 0), 4);
        check.due("three", x.split(1, 0, 1), 3);
        check.due("of one below: the marks above it are none", x.split(5, 0, 0), 4);
        x.edition();
        x.end(4, 1);
        check.due("one that ended is none", x.split(1, 1, 0), 3);
        check.due("of the ended one itself", x.split(4, 1, 0), 1);
        check.due("by none", x.split(4, 1, 1), 0);
        check.due("in 0 as ever", x.split(1, 0, 0), 4);
    }
}
