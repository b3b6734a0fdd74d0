/** Promises 27 to 31: lacking, story, moment, of, split. */
public final class StoryTest {
    private static final int NONE = MarkTree.NONE, UNKNOWN = MarkTree.UNKNOWN, OUTSIDE = MarkTree.OUTSIDE;
    private static final int FULL = MarkTree.FULL;
    private static final Check check = new Check();

    public static void main(String[] args) {
        lackingRefusals();
        lacking();
        lackingByEditions();
        lackingHighMarks();
        story();
        moment();
        of();
        split();
        splitByEditions();
        check.finish();
    }

    /** Marks 1, 2, 3 under the root, 4 under 1. */
    private static MarkTree some() {
        MarkTree x = new MarkTree();
        x.mark(0);
        x.mark(0);
        x.mark(0);
        x.mark(1);
        return x;
    }

    private static void lackingRefusals() {
        MarkTree x = some();
        check.due("lacking unknown", x.lacking(0, 9), UNKNOWN);
        x.picture(0, 0, NONE);
        check.due("lacking unknown -1", x.lacking(-1, 0), UNKNOWN);
        check.due("lacking edition", x.lacking(0, 1), OUTSIDE);
        check.due("lacking edition -1", x.lacking(0, -1), OUTSIDE);
        check.due("lacking nothing", x.lacking(0, 0), 0);
    }

    private static void lacking() {
        MarkTree x = some();
        x.picture(0, 0, NONE);
        x.picture(0, 0, 0);
        x.picture(0, 0, NONE);
        x.picture(0, 0, 1);
        x.picture(0, 0, 0);
        x.give(0, 1, 0, 0);
        x.give(1, 2, 0, 0);
        x.give(2, 3, 0, 0);
        x.give(3, 4, 0, 0);
        check.due("lacking of the first", x.lacking(0, 0), 1 << 2 | 1 << 4);
        check.due("lacking of a copy", x.lacking(1, 0), 1 << 1 | 1 << 4);
        check.due("lacking of one alone", x.lacking(2, 0), 0);
        check.due("what it shows by one below", x.lacking(3, 0), 1 << 2);
        check.due("lacking of one without givings", x.lacking(4, 0), 1 << 1 | 1 << 2 | 1 << 4);
    }

    private static void lackingByEditions() {
        MarkTree x = some();
        x.picture(0, 0, NONE);
        x.picture(0, 0, 0);
        x.give(1, 2, 0, 0);
        x.edition();
        x.give(1, 3, 0, 0);
        x.doubt(0, 4);
        x.doubt(0, 5);
        check.due("lacking in 0", x.lacking(0, 0), 1 << 2);
        check.due("lacking in 1", x.lacking(0, 1), 1 << 3);
    }

    private static void lackingHighMarks() {
        MarkTree x = some();
        for (int m = 5; m < 40; m++) x.mark(0);
        x.picture(0, 0, NONE);
        x.picture(0, 0, 0);
        x.give(0, 39, 0, 0);
        x.give(0, 32, 0, 0);
        check.due("lacking of 39 and 32", x.lacking(1, 0), 1L << 39 | 1L << 32);
    }

    private static void story() {
        MarkTree x = new MarkTree();
        for (int s = 0; s < 4; s++) check.due("story", x.story(), s);
        check.due("a story too many", x.story(), FULL);
        check.due("stories", x.count(12), 4);
    }

    private static void moment() {
        MarkTree x = some();
        check.due("moment: no story", x.moment(0, 9, 0), UNKNOWN);
        x.story();
        check.due("moment: no mark", x.moment(0, 9, 5), UNKNOWN);
        check.due("moment: story -1", x.moment(-1, 0, 0), UNKNOWN);
        check.due("moment -1", x.moment(0, -1, 0), OUTSIDE);
        check.due("moment 1 of none", x.moment(0, 1, 0), OUTSIDE);
        check.due("a new one", x.moment(0, 0, 1), 1);
        check.due("a mark more", x.moment(0, 0, 2), 2);
        check.due("the same mark more", x.moment(0, 0, 2), 3);
        check.due("a fourth mark", x.moment(0, 0, 3), FULL);
        for (int i = 1; i < 5; i++) check.due("a new one", x.moment(0, i, i), 1);
        check.due("a sixth moment", x.moment(0, 5, 1), FULL);
        check.due("far beyond", x.moment(0, 6, 1), OUTSIDE);
        check.due("unknown ahead of outside", x.moment(0, 6, 5), UNKNOWN);
        check.due("a mark more of the last", x.moment(0, 4, 1), 2);
    }

    private static void of(MarkTree x, int p, int e, int... want) {
        for (int what = 0; what < 3; what++) {
            check.due("of picture " + p + " in " + e + ": " + what, x.of(p, 0, e, what), want[what]);
        }
    }

    private static void of() {
        MarkTree x = some();
        x.picture(0, 0, NONE);
        check.due("of: no story", x.of(0, 0, 9, 9), UNKNOWN);
        x.story();
        check.due("of: no picture", x.of(1, 0, 0, 0), UNKNOWN);
        check.due("of edition", x.of(0, 0, 1, 0), OUTSIDE);
        check.due("of what 3", x.of(0, 0, 0, 3), OUTSIDE);
        check.due("of what -1", x.of(0, 0, 0, -1), OUTSIDE);
        of(x, 0, 0, 0, NONE, 0);
        x.moment(0, 0, 3);
        x.moment(0, 1, 1);
        x.moment(0, 1, 2);
        x.moment(0, 2, 1);
        x.picture(0, 0, NONE);
        x.picture(0, 0, NONE);
        x.give(1, 4, 0, 0);
        x.give(2, 4, 0, 0);
        x.give(2, 2, 0, 0);
        of(x, 0, 0, 0, NONE, 0);
        of(x, 1, 0, 1, 2, 1);
        of(x, 2, 0, 2, 1, 0);
        x.edition();
        x.give(1, 3, 0, 0);
        of(x, 1, 1, 2, 0, 0);
        of(x, 1, 0, 1, 2, 1);
    }

    private static void split() {
        MarkTree x = some();
        check.due("split unknown", x.split(5, 9, 9), UNKNOWN);
        check.due("split edition", x.split(1, 1, 0), OUTSIDE);
        check.due("split edition -1", x.split(1, -1, 0), OUTSIDE);
        check.due("split what 2", x.split(1, 0, 2), OUTSIDE);
        check.due("split what -1", x.split(1, 0, -1), OUTSIDE);
        check.due("split of one that none shows", x.split(1, 0, 0), 2);
        check.due("split of none, number", x.split(1, 0, 1), 0);
        for (int p = 0; p < 5; p++) {
            x.picture(0, 0, NONE);
            x.give(p, 4, 0, 0);
        }
        x.give(0, 2, 0, 0);
        check.due("split by 2", x.split(1, 0, 0), 2);
        check.due("split by 2, number", x.split(1, 0, 1), 4);
        x.give(0, 3, 0, 0);
        check.due("of like ones the least", x.split(1, 0, 0), 2);
        x.give(1, 3, 0, 0);
        check.due("split by 3", x.split(1, 0, 0), 3);
        check.due("split by 3, number", x.split(1, 0, 1), 3);
        x.give(2, 3, 0, 0);
        x.give(1, 2, 0, 0);
        check.due("three are like two", x.split(1, 0, 0), 2);
        check.due("split of the root", x.split(0, 0, 0), NONE);
        check.due("split of the root, number", x.split(0, 0, 1), NONE);
    }

    private static void splitByEditions() {
        MarkTree x = some();
        for (int p = 0; p < 2; p++) {
            x.picture(0, 0, NONE);
            x.give(p, 1, 0, 0);
        }
        x.give(0, 2, 0, 0);
        check.due("split in 0", x.split(1, 0, 0), 2);
        x.edition();
        x.end(2, 3);
        check.due("split by what 2 was joined to", x.split(1, 1, 0), 3);
        check.due("its number", x.split(1, 1, 1), 1);
        x.end(3, 1);
        check.due("no mark is left", x.split(1, 1, 0), NONE);
        check.due("an ended one may be split", x.split(2, 1, 0), 1);
        check.due("split in 0 as ever", x.split(1, 0, 0), 2);
    }
}
