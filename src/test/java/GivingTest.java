/** Promises 8 to 14: picture, give, doubt, told, means, led, count. */
public final class GivingTest {
    private static final int NONE = MarkTree.NONE, UNKNOWN = MarkTree.UNKNOWN, OUTSIDE = MarkTree.OUTSIDE;
    private static final int NOT = MarkTree.NOT, FULL = MarkTree.FULL;
    private static final Check check = new Check();

    public static void main(String[] args) {
        picture();
        give();
        doubt();
        told();
        toldWrong();
        wrongByItsOwnEdition();
        wrongByMost();
        meansRefusals();
        meansByJoins();
        meansBySplits();
        meansByKeys();
        meansByDoubts();
        lacks();
        led();
        count();
        check.finish();
    }

    /** Root 0; 1, 2 under it; 3 under 1; 4 under 3; two pictures. */
    private static MarkTree small() {
        MarkTree x = new MarkTree();
        x.mark(0);
        x.mark(0);
        x.mark(1);
        x.mark(3);
        x.picture(100, 1, NONE);
        x.picture(200, 2, NONE);
        return x;
    }

    private static void picture() {
        MarkTree x = new MarkTree();
        check.due("copy of none yet", x.picture(0, 0, 0), UNKNOWN);
        check.due("copy -2", x.picture(0, 0, -2), UNKNOWN);
        check.due("unknown ahead of outside", x.picture(-1, 10, 3), UNKNOWN);
        check.due("year -1", x.picture(-1, 0, NONE), OUTSIDE);
        check.due("year 1000", x.picture(1000, 0, NONE), OUTSIDE);
        check.due("place -1", x.picture(0, -1, NONE), OUTSIDE);
        check.due("place 10", x.picture(0, 10, NONE), OUTSIDE);
        check.due("first", x.picture(0, 0, NONE), 0);
        check.due("second", x.picture(999, 9, 0), 1);
        for (int p = 2; p < 40; p++) check.due("more", x.picture(1, 1, p - 1), p);
        check.due("a picture too many", x.picture(1, 1, NONE), FULL);
        check.due("outside ahead of full", x.picture(1, 10, NONE), OUTSIDE);
        check.due("pictures", x.count(3), 40);
    }

    private static void give() {
        MarkTree x = small();
        check.due("give: no picture", x.give(2, 0, 0, 0), UNKNOWN);
        check.due("give: no mark", x.give(0, 5, 9, 99), UNKNOWN);
        check.due("give: hand -1", x.give(0, 0, -1, 0), OUTSIDE);
        check.due("give: hand 8", x.give(0, 0, 8, 0), OUTSIDE);
        check.due("give: keys -1", x.give(0, 0, 0, -1), OUTSIDE);
        check.due("give: keys 64", x.give(0, 0, 0, 64), OUTSIDE);
        for (int g = 0; g < 120; g++) check.due("give", x.give(g % 2, g % 5, g % 8, g % 64), g);
        check.due("a giving too many", x.give(0, 0, 0, 0), FULL);
        check.due("outside ahead of full", x.give(0, 0, 8, 0), OUTSIDE);
        check.due("givings", x.count(4), 120);
        check.due("wrong by most of 20 a picture", x.count(5), 80);
        check.due("the 20th of a picture", x.told(38, 5), 0);
        check.due("the 21st of a picture", x.told(40, 5), 4);
    }

    private static void doubt() {
        MarkTree x = small();
        x.give(0, 1, 3, 0);
        check.due("doubt unknown", x.doubt(1, 0), UNKNOWN);
        check.due("doubt unknown -1", x.doubt(-1, 9), UNKNOWN);
        check.due("doubt hand 8", x.doubt(0, 8), OUTSIDE);
        check.due("doubt hand -1", x.doubt(0, -1), OUTSIDE);
        check.due("doubt of one's own", x.doubt(0, 3), NOT);
        check.due("doubt", x.doubt(0, 0), 1);
        check.due("doubt twice", x.doubt(0, 0), NOT);
        x.edition();
        check.due("doubt twice, later", x.doubt(0, 0), NOT);
        check.due("doubt by another", x.doubt(0, 7), 2);
        check.due("doubters", x.told(0, 6), 2);
    }

    private static void told() {
        MarkTree x = small();
        x.edition();
        x.give(1, 4, 5, 33);
        check.due("told unknown", x.told(1, 0), UNKNOWN);
        check.due("told unknown ahead", x.told(-1, 7), UNKNOWN);
        check.due("told what -1", x.told(0, -1), OUTSIDE);
        check.due("told what 7", x.told(0, 7), OUTSIDE);
        int[] want = {1, 4, 5, 33, 1, 0, 0};
        for (int what = 0; what < want.length; what++) check.due("told " + what, x.told(0, what), want[what]);
    }

    private static void toldWrong() {
        MarkTree x = small();
        Check.rule(x, 0, "allow 0 under 1; allow 0 under 2; allow 1 under 39; bar 2 with 3; most 1;");
        x.mark(0);
        x.end(5, NONE);
        x.give(0, 5, 0, 63);
        x.give(0, 0, 0, 1);
        x.give(0, 4, 0, 2);
        x.give(0, 4, 0, 12);
        x.give(0, 4, 0, 1);
        x.give(0, 2, 0, 1);
        x.give(1, 2, 0, 5);
        x.give(1, 2, 0, 13);
        x.give(1, 0, 0, 15);
        int[] want = {1, 2, 2, 3, 0, 4, 0, 3, 2};
        for (int g = 0; g < want.length; g++) check.due("why giving " + g + " is wrong", x.told(g, 5), want[g]);
        check.due("wrong ones", x.count(5), 7);
    }

    /** Rules and the tree of the edition in which it was given, also what comes to it later. */
    private static void wrongByItsOwnEdition() {
        MarkTree x = small();
        x.give(0, 1, 0, 3);
        x.give(0, 2, 0, 3);
        x.edition();
        x.give(0, 1, 0, 3);
        Check.rule(x, 1, "allow 0 under 2;");
        check.due("a rule from 1 on, given in 0", x.told(0, 5), 0);
        check.due("a rule from 1 on, given in 1", x.told(2, 5), 2);
        Check.rule(x, 0, "bar 0 with 1; strike 0;");
        check.due("a rule that comes late for 0", x.told(1, 5), 3);
        check.due("and strikes from 0 on", x.told(2, 5), 3);
        x.end(2, 1);
        check.due("ended later", x.told(1, 5), 3);
        x.give(1, 4, 0, 0);
        check.due("there", x.told(3, 5), 0);
        x.end(4, NONE);
        check.due("ended in its own edition", x.told(3, 5), 1);
    }

    private static void wrongByMost() {
        MarkTree x = small();
        Check.rule(x, 0, "most 2;");
        Check.rule(x, 1, "most 3;");
        Check.rule(x, 2, "most 1;");
        for (int e = 0; e < 3; e++) {
            for (int k = 0; k < 3; k++) x.give(0, 1, 0, 0);
            x.edition();
        }
        int[] want = {0, 0, 4, 0, 4, 4, 4, 4, 4};
        for (int g = 0; g < want.length; g++) check.due("most, giving " + g, x.told(g, 5), want[g]);
    }

    private static void meansRefusals() {
        MarkTree x = small();
        x.edition();
        x.give(0, 1, 0, 0);
        check.due("means unknown", x.means(1, 0, 0), UNKNOWN);
        check.due("means unknown ahead", x.means(-1, 5, 5), UNKNOWN);
        check.due("means edition", x.means(0, 2, 0), OUTSIDE);
        check.due("means edition -1", x.means(0, -1, 0), OUTSIDE);
        check.due("means what 3", x.means(0, 1, 3), OUTSIDE);
        check.due("outside ahead of not", x.means(0, 0, -1), OUTSIDE);
        check.due("not told by then", x.means(0, 0, 0), NOT);
        check.due("means", x.means(0, 1, 0), 1);
    }

    private static void meansByJoins() {
        MarkTree x = small();
        x.give(0, 4, 0, 0);
        x.edition();
        x.end(4, 2);
        x.edition();
        x.end(2, 3);
        x.edition();
        x.end(3, NONE);
        int[] want = {4, 2, 3, 1};
        int[] look = {0, 0, 0, 1};
        for (int e = 0; e <= 3; e++) {
            check.due("joined, in " + e, x.means(0, e, 0), want[e]);
            check.due("needs a look, in " + e, x.means(0, e, 1), look[e]);
        }
        check.due("need a look now", x.count(6), 1);
    }

    private static void meansBySplits() {
        MarkTree x = small();
        x.give(0, 4, 0, 0);
        x.give(1, 3, 0, 0);
        x.edition();
        x.end(3, NONE);
        check.due("its parent is ended, it is not", x.means(0, 1, 0), 4);
        check.due("the first above that is there", x.means(1, 1, 0), 1);
        x.end(1, NONE);
        check.due("further up", x.means(1, 1, 0), 0);
        x.end(4, NONE);
        check.due("over two that are not there", x.means(0, 1, 0), 0);
        check.due("before", x.means(0, 0, 0), 4);
        check.due("both need a look", x.count(6), 2);
    }

    private static void meansByKeys() {
        MarkTree x = small();
        Check.rule(x, 0, "key 0 raises; key 1 raises; key 2 turns; key 3 raises; key 3 keeps;");
        Check.rule(x, 1, "key 0 keeps; key 2 raises;");
        x.give(0, 4, 0, 1);
        x.give(0, 4, 0, 3);
        x.give(0, 3, 0, 3);
        x.give(0, 1, 0, 3);
        x.give(0, 4, 0, 4);
        x.give(0, 4, 0, 5);
        x.give(0, 4, 0, 40);
        int[] want = {3, 1, 0, 0, NONE, NONE, 4};
        for (int g = 0; g < want.length; g++) check.due("by keys, " + g, x.means(g, 0, 0), want[g]);
        x.edition();
        check.due("senses by its own edition", x.means(0, 1, 0), 3);
        x.give(1, 4, 0, 5);
        check.due("senses of 1", x.means(7, 1, 0), 3);
        x.move(3, 2);
        check.due("raised by parents of 1", x.means(1, 1, 0), 2);
        check.due("raised by parents of 0", x.means(1, 0, 0), 1);
        x.end(3, NONE);
        check.due("raised to one that is not there", x.means(0, 1, 0), 3);
        check.due("split, then raised", x.means(2, 1, 0), 0);
    }

    private static void meansByDoubts() {
        MarkTree x = small();
        x.give(0, 4, 0, 0);
        x.doubt(0, 1);
        check.due("one doubts", x.means(0, 0, 0), 4);
        x.edition();
        x.doubt(0, 2);
        check.due("two doubt", x.means(0, 1, 0), NONE);
        check.due("one doubted by then", x.means(0, 0, 0), 4);
        check.due("it is not wrong", x.told(0, 5), 0);
    }

    private static void lacks() {
        MarkTree x = small();
        Check.rule(x, 0, "need 1 with 2;");
        Check.rule(x, 1, "need 2 with 39;");
        x.give(0, 4, 0, 0);
        x.give(1, 2, 0, 0);
        check.due("lacks", x.means(0, 0, 2), 1);
        check.due("needs nothing", x.means(1, 0, 2), 0);
        x.give(0, 2, 1, 0);
        check.due("lacks no more", x.means(0, 0, 2), 0);
        x.edition();
        check.due("a mark that there is not is lacking", x.means(1, 1, 2), 1);
        check.due("lack now", x.count(7), 2);
        x.doubt(0, 6);
        x.doubt(0, 7);
        x.doubt(2, 6);
        x.doubt(2, 7);
        check.due("means nothing but lacks", x.means(0, 1, 2), 1);
        check.due("in 0 it does not", x.means(0, 0, 2), 0);
        x.mark(0);
        x.end(5, NONE);
        x.give(1, 5, 0, 0);
        Check.rule(x, 0, "need 5 with 1;");
        check.due("a wrong one does not lack", x.means(3, 1, 2), 0);
        x.move(3, 2);
        check.due("below by the edition asked", x.means(0, 0, 2), 0);
    }

    private static void led() {
        MarkTree x = small();
        x.give(0, 2, 0, 0);
        x.give(0, 4, 0, 0);
        x.give(0, 3, 0, 0);
        check.due("led unknown picture", x.led(2, 0, 0), UNKNOWN);
        check.due("led unknown mark", x.led(0, 5, 9), UNKNOWN);
        check.due("led edition", x.led(0, 0, 1), OUTSIDE);
        check.due("led edition -1", x.led(0, 0, -1), OUTSIDE);
        check.due("led to the root", x.led(0, 0, 0), 0);
        check.due("led by one below", x.led(0, 3, 0), 1);
        check.due("led to 4", x.led(0, 4, 0), 1);
        check.due("led by none", x.led(1, 0, 0), NONE);
        x.edition();
        x.doubt(1, 1);
        x.doubt(1, 2);
        check.due("led by the next", x.led(0, 3, 1), 2);
        check.due("not led", x.led(0, 4, 1), NONE);
        check.due("led as of 0", x.led(0, 4, 0), 1);
        x.give(1, 2, 0, 0);
        check.due("not told by then", x.led(1, 2, 0), NONE);
    }

    private static void count() {
        MarkTree x = small();
        check.due("count -1", x.count(-1), OUTSIDE);
        check.due("count 13", x.count(13), OUTSIDE);
        x.edition();
        x.end(2, NONE);
        x.give(0, 2, 0, 0);
        x.give(0, 1, 0, 0);
        x.edition();
        x.end(1, NONE);
        Check.rule(x, 0, "need 0 with 2;");
        x.word(0, 0, 1);
        x.word(0, 0, 2);
        Check.ask(x, "at 1");
        x.story();
        x.story();
        x.story();
        x.feed(3, 0);
        int[] want = {2, 5, 3, 2, 2, 1, 1, 1, 1, 3, 2, 1, 3};
        for (int what = 0; what < want.length; what++) check.due("count " + what, x.count(what), want[what]);
    }
}
