/**
 * Of everything as much as there can be: the last one is taken and works as the first does, the next
 * one is refused. A tree as deep as it can be, rows as long, sets with their highest bit.
 */
public final class LimitsTest {
    private static final int NONE = MarkTree.NONE, UNKNOWN = MarkTree.UNKNOWN, OUTSIDE = MarkTree.OUTSIDE;
    private static final int NOT = MarkTree.NOT, FULL = MarkTree.FULL;
    private static final Check check = new Check();

    public static void main(String[] args) {
        editions();
        marks();
        deepTree();
        deepTreeMoved();
        longJoins();
        longSplits();
        pictures();
        lastPictureIsFound();
        lastMarkIsFound();
        copies();
        givings();
        doubts();
        keys();
        most();
        feeds();
        rules();
        rulesByEditions();
        words();
        asks();
        stories();
        missedAtMost();
        fullObject();
        check.finish();
    }

    private static void editions() {
        MarkTree x = new MarkTree();
        check.due("NOW at first", x.count(0), 0);
        for (int e = 1; e <= 9; e++) {
            check.due("edition", x.edition(), e);
            check.due("NOW", x.count(0), e);
        }
        for (int k = 0; k < 3; k++) check.due("after 9", x.edition(), NOT);
        check.due("NOW stays 9", x.count(0), 9);
        check.due("a mark in 9", x.mark(0), 1);
        check.due("told in 9", x.tree(1, 9, 4), 9);
        check.due("there in 9", x.tree(1, 9, 0), 1);
        check.due("not in 8", x.tree(1, 8, 0), 0);
        check.due("moved in 9", x.move(1, 0), 0);
        check.due("its parent in 9", x.tree(1, 9, 1), 0);
        check.due("its parent in 8", x.tree(1, 8, 1), NONE);
        check.due("ended in 9", x.end(1, 0), 0);
        check.due("told when ended", x.tree(1, 9, 5), 9);
        check.due("edition 10", x.tree(1, 10, 0), OUTSIDE);
    }

    private static void marks() {
        MarkTree x = new MarkTree();
        for (int m = 1; m <= 39; m++) check.due("mark", x.mark(0), m);
        check.due("mark 40", x.mark(0), FULL);
        check.due("mark 40 again, under the last", x.mark(39), FULL);
        check.due("there is none", x.tree(40, 0, 0), UNKNOWN);
        check.due("marks", x.count(1), 40);
        check.due("there", x.count(2), 40);
        check.due("the last is moved", x.move(39, 38), 0);
        check.due("one is moved under it", x.move(37, 39), 0);
        check.due("below it", x.tree(39, 0, 2), 2);
        check.due("one is joined to it", x.end(36, 39), 0);
        check.due("it is ended", x.end(39, 38), 1);
        check.due("an end makes no room", x.mark(0), FULL);
        check.due("there are fewer", x.count(2), 38);
        check.due("marks as before", x.count(1), 40);
    }

    /** Mark m under m - 1, the last one 39 steps below the root. */
    private static MarkTree deep() {
        MarkTree x = new MarkTree();
        for (int m = 1; m <= 39; m++) x.mark(m - 1);
        return x;
    }

    private static void deepTree() {
        MarkTree x = deep();
        for (int m = 0; m <= 39; m++) check.due("below " + m, x.tree(m, 0, 2), 40 - m);
        check.due("the last is below the root", x.below(39, 0, 0), 1);
        check.due("the root is not below it", x.below(0, 39, 0), 0);
        x.picture(0, 0, NONE);
        x.picture(0, 0, 0);
        x.give(0, 39, 0, 0);
        for (int m = 0; m <= 39; m++) check.due("shown by the deepest: " + m, x.led(0, m, 0), 0);
        check.due("lacking is what is meant alone", x.lacking(1, 0), 1L << 39);
        check.due("the root under the last", x.move(0, 39), NOT);
        check.due("1 under the last", x.move(1, 39), NOT);
        check.due("1 is ended", x.end(1, NONE), 38);
    }

    private static void deepTreeMoved() {
        MarkTree x = deep();
        x.edition();
        check.due("half of it is moved to the root", x.move(20, 0), 19);
        check.due("then 1 under the last", x.move(1, 39), 0);
        check.due("as deep, the other way about", x.below(19, 20, 1), 1);
        check.due("below 20 in 1", x.tree(20, 1, 2), 39);
        check.due("below 20 in 0", x.tree(20, 0, 2), 20);
        check.due("below 1 in 1", x.tree(1, 1, 2), 19);
        check.due("below 1 in 0", x.tree(1, 0, 2), 39);
    }

    private static void longJoins() {
        MarkTree x = new MarkTree();
        for (int m = 1; m <= 39; m++) x.mark(0);
        x.picture(0, 0, NONE);
        x.give(0, 1, 0, 0);
        x.edition();
        for (int m = 1; m <= 38; m++) check.due("joined", x.end(m, m + 1), 0);
        check.due("38 joins", x.means(0, 1, 0), 39);
        check.due("no look", x.means(0, 1, 1), 0);
        check.due("none of them in 0", x.means(0, 0, 0), 1);
        x.edition();
        check.due("the last is joined to the root", x.end(39, 0), 0);
        check.due("39 joins", x.means(0, 2, 0), 0);
        check.due("no look in 2", x.means(0, 2, 1), 0);
        check.due("38 in 1", x.means(0, 1, 0), 39);
    }

    private static void longSplits() {
        MarkTree x = deep();
        x.picture(0, 0, NONE);
        x.give(0, 39, 0, 0);
        x.edition();
        for (int m = 39; m >= 1; m--) {
            x.end(m, NONE);
            check.due("split down to " + m, x.means(0, 1, 0), m - 1);
            check.due("it needs a look", x.means(0, 1, 1), 1);
        }
        check.due("the root alone is there", x.count(2), 1);
        check.due("as before in 0", x.means(0, 0, 0), 39);
        check.due("no look in 0", x.means(0, 0, 1), 0);
        MarkTree y = deep();
        y.picture(0, 0, NONE);
        y.give(0, 39, 0, 0);
        y.edition();
        for (int m = 1; m <= 39; m++) y.end(m, NONE);
        check.due("over 38 that are not there", y.means(0, 1, 0), 0);
    }

    private static void pictures() {
        MarkTree x = new MarkTree();
        check.due("the first year and place", x.picture(0, 0, NONE), 0);
        check.due("the last year and place", x.picture(999, 9, NONE), 1);
        check.due("a copy of itself", x.picture(1, 1, 2), UNKNOWN);
        check.due("a copy of the last", x.picture(1, 1, 1), 2);
        for (int p = 3; p < 40; p++) check.due("picture", x.picture(p, 5, NONE), p);
        check.due("picture 40", x.picture(0, 0, NONE), FULL);
        check.due("picture 40, a copy", x.picture(0, 0, 39), FULL);
        check.due("pictures", x.count(3), 40);
        check.due("there is none", x.lacking(40, 0), UNKNOWN);
        check.due("of the first year", x.together(0, 0, 0, 0, 0, 3), 1);
        check.due("of the last year", x.together(0, 0, 0, 999, 999, 3), 1);
        check.due("of all years but these", x.together(0, 0, 0, 1, 998, 3), 38);
        check.due("of all years", x.together(0, 0, 0, 0, 999, 3), 40);
    }

    private static MarkTree fortyPictures() {
        MarkTree x = new MarkTree();
        for (int p = 0; p < 40; p++) x.picture(25 * p, p % 10, NONE);
        return x;
    }

    private static void lastPictureIsFound() {
        MarkTree x = fortyPictures();
        x.mark(0);
        x.mark(0);
        x.give(39, 1, 0, 0);
        x.give(38, 1, 0, 0);
        x.give(38, 2, 1, 0);
        x.give(39, 2, 1, 0);
        Check.ask(x, "mark 1");
        Check.ask(x, "not mark 1");
        Check.ask(x, "before 976");
        Check.ask(x, "before 975");
        Check.ask(x, "before 999");
        Check.ask(x, "at 9");
        check.due("met: two", x.met(0, 0, NONE), 2);
        check.due("met: the last", x.met(0, 0, 1), 39);
        check.due("not met: all others", x.met(1, 0, NONE), 38);
        check.due("not met: the last of these", x.met(1, 0, 37), 37);
        check.due("before its year and one", x.met(2, 0, 39), 39);
        check.due("not before its year", x.met(3, 0, NONE), 39);
        check.due("not before its year: the last", x.met(3, 0, 39), NONE);
        check.due("before the last year", x.met(4, 0, NONE), 40);
        check.due("at the last place", x.met(5, 0, 3), 39);
        check.due("hands: both looked at the last", x.hands(0, 1, 0, 0, 0), 2);
        check.due("shown by the last two", x.tree(1, 0, 6), 2);
        check.due("along", x.along(1, 0, 0), 2);
        x.give(37, 1, 0, 0);
        check.due("likely: the first", x.likely(2, 0, 0), 37);
    }

    private static void lastMarkIsFound() {
        MarkTree x = fortyPictures();
        for (int m = 1; m <= 39; m++) x.mark(0);
        x.give(39, 39, 0, 0);
        x.give(39, 38, 0, 0);
        x.give(0, 39, 0, 0);
        x.word(3, 99, 39);
        Check.ask(x, "mark 39");
        Check.ask(x, "word 3 99");
        check.due("asked for the last mark", x.met(0, 0, 1), 39);
        check.due("asked for by a word", x.met(1, 0, 1), 39);
        check.due("along with 38", x.along(38, 0, 0), 39);
        check.due("likely for 38", x.likely(38, 0, 0), 0);
        check.due("likely for 38 is one", x.likely(38, 0, NONE), 1);
        check.due("split of 39", x.split(39, 0, 0), 38);
        check.due("split of 39, number", x.split(39, 0, 1), 1);
        check.due("split of 38 by 39 is no better", x.split(38, 0, 0), 1);
    }

    /** A row of copies forty long, and all of one. */
    private static void copies() {
        MarkTree x = new MarkTree();
        MarkTree y = new MarkTree();
        for (int m = 1; m <= 39; m++) {
            x.mark(0);
            y.mark(0);
        }
        for (int p = 0; p < 40; p++) {
            x.picture(0, 0, p - 1);
            y.picture(0, 0, p == 0 ? NONE : 0);
            x.give(p, p, 0, 0);
            y.give(p, p, 0, 0);
        }
        long all = (1L << 40) - 1;
        for (int p = 0; p < 40; p++) {
            check.due("lacking, row, " + p, x.lacking(p, 0), all & ~1L & ~(1L << p));
            check.due("lacking, star, " + p, y.lacking(p, 0), all & ~1L & ~(1L << p));
        }
    }

    private static void givings() {
        MarkTree x = fortyPictures();
        for (int m = 1; m <= 39; m++) x.mark(0);
        for (int g = 0; g < 120; g++) check.due("give", x.give(g % 40, g % 40, g % 8, 0), g);
        check.due("giving 120", x.give(0, 0, 0, 0), FULL);
        check.due("there is none to be told", x.told(120, 0), UNKNOWN);
        check.due("none to be doubted", x.doubt(120, 0), UNKNOWN);
        check.due("none that means", x.means(120, 0, 0), UNKNOWN);
        int[] last = {39, 39, 7, 0, 0, 0, 0};
        for (int what = 0; what < last.length; what++) check.due("told of the last: " + what, x.told(119, what), last[what]);
        check.due("the last means", x.means(119, 0, 0), 39);
        check.due("the first leads", x.led(39, 39, 0), 39);
        for (int g : new int[] {39, 79}) {
            x.doubt(g, 0);
            x.doubt(g, 1);
        }
        check.due("the last leads", x.led(39, 39, 0), 119);
        check.due("a doubt of the last", x.doubt(119, 0), 1);
        check.due("another one", x.doubt(119, 6), 2);
        check.due("nothing leads", x.led(39, 39, 0), NONE);
        check.due("a doubt makes no room", x.give(0, 0, 0, 0), FULL);
    }

    private static void doubts() {
        MarkTree x = new MarkTree();
        x.picture(0, 0, NONE);
        for (int own = 0; own <= 7; own++) {
            x.give(0, 0, own, 0);
            int doubters = 0;
            for (int hand = 0; hand <= 7; hand++) {
                check.due(hand + " doubts what " + own + " gave", x.doubt(own, hand), hand == own ? NOT : ++doubters);
                check.due("again", x.doubt(own, hand), NOT);
            }
            check.due("all but its own", x.told(own, 6), 7);
        }
        check.due("none is led", x.led(0, 0, 0), NONE);
    }

    /** Six keys; each may keep, raise or turn, and all of them may raise. */
    private static void keys() {
        MarkTree x = deep();
        x.picture(0, 0, NONE);
        Check.rule(x, 0, "key 0 raises;key 1 raises;key 2 raises;key 3 raises;key 4 raises;key 5 raises;");
        int[] marks = {39, 7, 6, 5, 1, 0};
        int[] want = {33, 1, 0, 0, 0, 0};
        for (int g = 0; g < marks.length; g++) {
            x.give(0, marks[g], 0, 63);
            check.due("raised six times from " + marks[g], x.means(g, 0, 0), want[g]);
        }
        for (int k = 0; k <= 5; k++) {
            x.give(0, 20, 0, 1 << k);
            check.due("raised by key " + k, x.means(6 + k, 0, 0), 19);
        }
        for (int k = 0; k <= 5; k++) {
            MarkTree y = new MarkTree();
            y.picture(0, 0, NONE);
            Check.rule(y, 0, "key " + k + " turns;");
            y.give(0, 0, 0, 63 & ~(1 << k));
            y.give(0, 0, 0, 1 << k);
            y.give(0, 0, 0, 63);
            check.due("all but key " + k, y.means(0, 0, 0), 0);
            check.due("turned by key " + k, y.means(1, 0, 0), NONE);
            check.due("turned among all", y.means(2, 0, 0), NONE);
        }
    }

    private static void most() {
        for (int most = 1; most <= 20; most++) {
            MarkTree x = new MarkTree();
            x.picture(0, 0, NONE);
            x.picture(0, 0, NONE);
            Check.rule(x, 0, "most " + most + ";");
            for (int g = 0; g <= 21; g++) x.give(0, 0, 0, 0);
            x.give(1, 0, 0, 0);
            check.due("the last that is not wrong by most " + most, x.told(most - 1, 5), 0);
            check.due("the first that is", x.told(most, 5), 4);
            check.due("of another picture", x.told(22, 5), 0);
            check.due("wrong ones", x.count(5), 22 - most);
        }
        MarkTree y = new MarkTree();
        y.picture(0, 0, NONE);
        for (int g = 0; g <= 20; g++) y.give(0, 0, 0, 0);
        check.due("the 20th, without a rule", y.told(19, 5), 0);
        check.due("the 21st", y.told(20, 5), 4);
    }

    /** A text of eight bytes, its first n by one call and the rest by another; higher bytes do not count. */
    private static void feeds() {
        long whole = 0x6d6f73742031323bL;
        for (int n = 1; n <= 8; n++) {
            MarkTree x = new MarkTree();
            check.due("feed " + n, x.feed(n, Long.rotateRight(whole, 8 * (8 - n))), n);
            if (n < 8) check.due("feed the rest", x.feed(8 - n, whole), 8);
            check.due("it is read in order", x.rule(0), 0);
            check.due("as it was fed", x.force(0, 0), 12);
        }
        for (int n = 1; n <= 8; n++) {
            MarkTree x = new MarkTree();
            for (int k = 1; k <= 160 / n; k++) check.due("feed " + n + " again", x.feed(n, -1L), n * k);
            int room = 160 % n;
            for (int more = room + 1; more <= 8; more++) check.due("no room for " + more, x.feed(more, -1L), FULL);
            if (room > 0) check.due("room for " + room, x.feed(room, -1L), 160);
            check.due("full", x.feed(1, -1L), FULL);
            check.due("bytes", x.count(9), 160);
            check.due("bytes of 255", x.rule(0), -11);
            check.due("at the first", x.fault(), 0);
            check.due("empty then", x.count(9), 0);
        }
    }

    private static void rules() {
        MarkTree x = new MarkTree();
        String widest = "allow 0 under 10;allow 0 under 11;allow 0 under 12;allow 0 under 13;"
            + "allow 0 under 14;allow 0 under 15;allow 0 under 16;allow 0 under 17 ;";
        for (int r = 0; r < 8; r++) {
            Check.text(x, widest + " ".repeat(160 - widest.length()));
            check.due("text of 160 bytes", x.count(9), 160);
            check.due("rule", x.rule(9), r);
            check.due("clauses of all rules", x.force(9, 7), 8 * (r + 1));
        }
        check.due("none of them earlier", x.force(8, 7), 0);
        check.due("a ninth, empty", x.rule(0), FULL);
        Check.text(x, "foo");
        check.due("a ninth with a fault", x.rule(0), FULL);
        check.due("rules", x.count(8), 8);
        check.due("text stays", x.count(9), 3);
    }

    /** A rule from 9 on holds in 9 alone; each holds in its edition, and not in the one ahead. */
    private static void rulesByEditions() {
        MarkTree x = new MarkTree();
        for (int e : new int[] {9, 0, 5}) Check.rule(x, e, "most " + (e + 1) + ";");
        for (int e = 0; e <= 9; e++) check.due("most in " + e, x.force(e, 0), e == 9 ? 10 : e >= 5 ? 6 : 1);
        for (int e = 0; e <= 9; e++) {
            MarkTree y = new MarkTree();
            Check.rule(y, e, "most 3; bar 0 with 1;");
            Check.rule(y, e, "most 4; need 0 with 1; key 5 turns; key 5 raises;");
            if (e > 0) check.due("ahead of " + e, y.force(e - 1, 0), 20);
            if (e > 0) check.due("no bar ahead of " + e, y.force(e - 1, 8), 0);
            check.due("of one edition the greater number, " + e, y.force(e, 0), 4);
            check.due("of one rule the last, " + e, y.force(e, 6), 2);
            check.due("bar in " + e, y.force(e, 8), 1);
            check.due("need in 9", y.force(9, 9), 1);
        }
    }

    private static void words() {
        MarkTree x = new MarkTree();
        for (int m = 1; m <= 39; m++) x.mark(0);
        for (int k = 0; k < 40; k++) check.due("word", x.word(0, 0, k), k + 1);
        for (int k = 0; k < 19; k++) check.due("word", x.word(k % 4, 99 - k / 4, 39), 1);
        check.due("word 60", x.word(3, 0, 39), 1);
        check.due("word 61", x.word(3, 1, 39), FULL);
        check.due("word 61, of one that is there", x.word(3, 0, 38), FULL);
        check.due("one that leads there already", x.word(3, 0, 39), NOT);
        check.due("words told", x.count(10), 60);
        check.due("leads to forty", x.leads(0, 0), 2);
        check.due("leads to one", x.leads(3, 0), 1);
        check.due("leads to none", x.leads(3, 1), 0);
        check.due("the last of the first tongue", x.leads(0, 99), 1);
        check.due("the last of the last", x.leads(3, 99), 1);
    }

    private static void asks() {
        MarkTree x = new MarkTree();
        x.picture(7, 7, NONE);
        for (int a = 0; a < 8; a++) check.due("ask", Check.ask(x, " ".repeat(95) + "at  " + a), a);
        for (int a = 0; a < 8; a++) check.due("met by " + a, x.met(a, 0, NONE), a == 7 ? 1 : 0);
        check.due("a ninth, empty", x.ask(), FULL);
        Check.text(x, "at 7");
        check.due("a ninth", x.ask(), FULL);
        check.due("asks", x.count(11), 8);
        check.due("text stays", x.count(9), 4);
        check.due("there is none", x.met(8, 0, NONE), UNKNOWN);
        check.due("the last", x.met(7, 0, 0), 0);
        Check.text(x, " ".repeat(97));
        check.due("a ninth of 101 bytes", x.ask(), NOT);
    }

    private static void stories() {
        MarkTree x = new MarkTree();
        for (int m = 1; m <= 39; m++) x.mark(0);
        x.picture(0, 0, NONE);
        x.picture(0, 0, NONE);
        for (int s = 0; s < 4; s++) {
            check.due("story", x.story(), s);
            for (int i = 0; i < 5; i++) {
                check.due("beyond the next one", x.moment(s, i + 1, 0), OUTSIDE);
                for (int k = 1; k <= 3; k++) check.due("moment", x.moment(s, i, 33 + i - s + k - 1), k);
                check.due("a fourth mark", x.moment(s, i, 0), FULL);
            }
            check.due("a sixth moment", x.moment(s, 5, 0), FULL);
            check.due("beyond it", x.moment(s, 6, 0), OUTSIDE);
        }
        check.due("a fifth story", x.story(), FULL);
        check.due("stories", x.count(12), 4);
        check.due("there is none", x.of(0, 4, 0, 0), UNKNOWN);
        check.due("a moment of none", x.moment(4, 0, 0), UNKNOWN);
        for (int m = 31; m <= 39; m++) x.give(0, m, 0, 0);
        for (int m = 38; m <= 39; m++) x.give(1, m, 0, 0);
        for (int s = 0; s < 4; s++) {
            check.due("of all moments but one with mark 30", x.of(0, s, 0, 0), s == 3 ? 4 : 5);
            check.due("the first of these", x.of(0, s, 0, 1), s == 3 ? 1 : 0);
            check.due("of none", x.of(1, s, 0, 0), 0);
            check.due("of none: the first", x.of(1, s, 0, 1), NONE);
        }
    }

    /** Hands that saw it alone as often as they can, with one that both saw. */
    private static void missedAtMost() {
        MarkTree x = fortyPictures();
        x.mark(0);
        x.mark(0);
        for (int p = 0; p < 40; p++) {
            x.give(p, p < 20 || p == 39 ? 1 : 2, 0, 0);
            x.give(p, p >= 20 ? 1 : 2, 7, 0);
        }
        check.due("looked at", x.hands(0, 7, 1, 0, 0), 40);
        check.due("by the first", x.hands(0, 7, 1, 0, 1), 21);
        check.due("by the other", x.hands(0, 7, 1, 0, 2), 20);
        check.due("by both", x.hands(0, 7, 1, 0, 3), 1);
        check.due("missed", x.hands(0, 7, 1, 0, 4), 20 * 19);
        check.due("missed of the root", x.hands(0, 7, 0, 0, 4), 0);
    }

    private static void fullObject() {
        MarkTree x = Made.full();
        int[] want = {9, 40, 39, 40, 120, 0, 0, 0, 8, 160, 60, 8, 4};
        for (int what = 0; what < want.length; what++) check.due("full: count " + what, x.count(what), want[what]);
        check.due("full: room for a moment", x.moment(2, 4, 1), 1);
        check.due("full: room for a mark", x.moment(3, 4, 1), 3);
        check.due("full: no more", x.moment(3, 4, 1), FULL);
    }
}
