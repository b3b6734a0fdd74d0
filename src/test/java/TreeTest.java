/** Promises 1 to 7: a new object, edition, mark, move, end, tree, below. */
public final class TreeTest {
    private static final int NONE = MarkTree.NONE, UNKNOWN = MarkTree.UNKNOWN, OUTSIDE = MarkTree.OUTSIDE;
    private static final int NOT = MarkTree.NOT, FULL = MarkTree.FULL;
    private static final int MOST = Integer.MAX_VALUE, LEAST = Integer.MIN_VALUE;
    private static final Check check = new Check();

    public static void main(String[] args) {
        newObject();
        edition();
        mark();
        move();
        end();
        endedIsNotThere();
        tree();
        treeByEditions();
        below();
        check.finish();
    }

    private static void newObject() {
        MarkTree x = new MarkTree();
        int[] counts = {0, 1, 1, 0, 0, 0, 0, 0, 0, 0, 0, 0, 0};
        for (int what = 0; what < counts.length; what++) check.due("new: count " + what, x.count(what), counts[what]);
        check.due("new: fault", x.fault(), NONE);
        check.due("new: root is there", x.tree(0, 0, 0), 1);
        check.due("new: edition 1 is not yet", x.tree(0, 1, 0), OUTSIDE);
        check.due("new: most", x.force(0, 0), 20);
    }

    private static void edition() {
        MarkTree x = new MarkTree();
        for (int e = 1; e <= 9; e++) check.due("edition", x.edition(), e);
        check.due("edition after 9", x.edition(), NOT);
        check.due("edition stays 9", x.count(0), 9);
    }

    private static void mark() {
        MarkTree x = new MarkTree();
        check.due("mark(1) unknown", x.mark(1), UNKNOWN);
        check.due("mark(-1) unknown", x.mark(-1), UNKNOWN);
        check.due("mark(MOST) unknown", x.mark(MOST), UNKNOWN);
        check.due("mark(LEAST) unknown", x.mark(LEAST), UNKNOWN);
        for (int m = 1; m <= 38; m++) check.due("mark", x.mark(m - 1), m);
        x.end(38, NONE);
        check.due("mark under an ended one", x.mark(38), NOT);
        check.due("mark 39", x.mark(0), 39);
        check.due("mark 40", x.mark(0), FULL);
        check.due("mark under an ended one ahead of FULL", x.mark(38), NOT);
        check.due("mark unknown ahead of FULL", x.mark(40), UNKNOWN);
        check.due("marks", x.count(1), 40);
        check.due("a deep one is below the root", x.below(38, 0, 0), 1);
        check.due("all below the root", x.tree(0, 0, 2), 40);
    }

    private static void move() {
        MarkTree x = new MarkTree();
        x.mark(0);
        x.mark(1);
        x.mark(2);
        x.mark(0);
        check.due("move root", x.move(0, 4), NOT);
        check.due("move unknown", x.move(5, 0), UNKNOWN);
        check.due("move to unknown", x.move(1, 5), UNKNOWN);
        check.due("move to NONE", x.move(1, NONE), UNKNOWN);
        check.due("move root to unknown", x.move(0, 5), UNKNOWN);
        check.due("move under itself", x.move(1, 1), NOT);
        check.due("move under one below", x.move(1, 3), NOT);
        check.due("move", x.move(2, 4), 1);
        check.due("move again in one edition", x.move(2, 0), 4);
        check.due("the last one holds", x.tree(2, 0, 1), 0);
        check.due("move to where it is", x.move(2, 0), 0);
        x.edition();
        check.due("move later", x.move(2, 1), 0);
        check.due("earlier parent stays", x.tree(2, 0, 1), 0);
        check.due("later parent", x.tree(2, 1, 1), 1);
        check.due("what is below goes along", x.below(3, 1, 1), 1);
        check.due("but not earlier", x.below(3, 1, 0), 0);
        x.end(4, NONE);
        check.due("move ended", x.move(4, 1), NOT);
        check.due("move under ended", x.move(3, 4), NOT);
    }

    private static void end() {
        MarkTree x = new MarkTree();
        x.mark(0);
        x.mark(1);
        x.mark(2);
        x.mark(0);
        check.due("end root", x.end(0, NONE), NOT);
        check.due("end unknown", x.end(9, NONE), UNKNOWN);
        check.due("end to unknown", x.end(1, 9), UNKNOWN);
        check.due("end to -2", x.end(1, -2), UNKNOWN);
        check.due("end root to unknown", x.end(0, 9), UNKNOWN);
        check.due("end to itself", x.end(1, 1), NOT);
        check.due("end split", x.end(2, NONE), 1);
        check.due("end again", x.end(2, NONE), NOT);
        check.due("end to ended", x.end(4, 2), NOT);
        check.due("ended ones below count", x.end(1, 3), 2);
        check.due("joined below itself", x.tree(1, 0, 3), 3);
        check.due("there are", x.count(2), 3);
        check.due("end to root", x.end(4, 0), 0);
    }

    private static void endedIsNotThere() {
        MarkTree x = new MarkTree();
        x.edition();
        x.mark(0);
        x.edition();
        x.end(1, NONE);
        x.edition();
        check.due("not told yet", x.tree(1, 0, 0), 0);
        check.due("told", x.tree(1, 1, 0), 1);
        check.due("ended", x.tree(1, 2, 0), 0);
        check.due("still ended", x.tree(1, 3, 0), 0);
        check.due("parent of an ended one", x.tree(1, 3, 1), 0);
        check.due("parent not told yet", x.tree(1, 0, 1), NONE);
        check.due("edition told", x.tree(1, 3, 4), 1);
        check.due("edition ended", x.tree(1, 3, 5), 2);
        check.due("split is joined to none", x.tree(1, 3, 3), NONE);
        check.due("root is not ended", x.tree(0, 3, 5), NONE);
    }

    private static void tree() {
        MarkTree x = new MarkTree();
        x.mark(0);
        x.mark(0);
        x.mark(1);
        check.due("tree unknown", x.tree(4, 0, 0), UNKNOWN);
        check.due("tree unknown ahead", x.tree(-1, 9, 9), UNKNOWN);
        check.due("tree edition", x.tree(1, 1, 0), OUTSIDE);
        check.due("tree edition -1", x.tree(1, -1, 0), OUTSIDE);
        check.due("tree what -1", x.tree(1, 0, -1), OUTSIDE);
        check.due("tree what 7", x.tree(1, 0, 7), OUTSIDE);
        check.due("tree extremes", x.tree(1, MOST, LEAST), OUTSIDE);
        check.due("parent of root", x.tree(0, 0, 1), NONE);
        check.due("below with itself", x.tree(2, 0, 2), 1);
        check.due("below", x.tree(1, 0, 2), 2);
        check.due("not joined", x.tree(1, 0, 3), NONE);
        x.picture(0, 0, NONE);
        x.picture(0, 0, NONE);
        x.give(0, 3, 0, 0);
        x.give(0, 3, 1, 0);
        x.give(1, 2, 0, 0);
        check.due("pictures that show 1", x.tree(1, 0, 6), 1);
        check.due("pictures that show 0", x.tree(0, 0, 6), 2);
        check.due("pictures that show 2", x.tree(2, 0, 6), 1);
    }

    private static void treeByEditions() {
        MarkTree x = new MarkTree();
        x.mark(0);
        x.picture(0, 0, NONE);
        x.edition();
        x.mark(1);
        x.give(0, 2, 0, 0);
        check.due("below later", x.tree(1, 1, 2), 2);
        check.due("below earlier", x.tree(1, 0, 2), 1);
        check.due("below one not told yet: it alone", x.tree(2, 0, 2), 1);
        check.due("shown later", x.tree(1, 1, 6), 1);
        check.due("shown earlier", x.tree(1, 0, 6), 0);
    }

    private static void below() {
        MarkTree x = new MarkTree();
        x.mark(0);
        x.mark(1);
        x.mark(2);
        check.due("below unknown", x.below(4, 0, 0), UNKNOWN);
        check.due("below unknown m", x.below(0, 4, 7), UNKNOWN);
        check.due("below edition", x.below(0, 0, 1), OUTSIDE);
        check.due("below edition -1", x.below(0, 0, -1), OUTSIDE);
        check.due("below itself", x.below(2, 2, 0), 1);
        check.due("below two up", x.below(3, 1, 0), 1);
        check.due("above is not below", x.below(1, 3, 0), 0);
        x.end(2, NONE);
        check.due("through one that is not there", x.below(3, 1, 0), 1);
        check.due("one that is not there", x.below(2, 1, 0), 1);
        x.edition();
        x.mark(3);
        check.due("not told by then", x.below(4, 0, 0), 0);
        check.due("told by then", x.below(4, 1, 1), 1);
        check.due("itself, not told by then", x.below(4, 4, 0), 1);
    }
}
