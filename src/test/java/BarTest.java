/** A bar clause that names one key twice: no two keys are barred by it, whatever rests on that. */
public final class BarTest {
    private static final int KEYS = 6, SETS = 1 << KEYS, NONE = MarkTree.NONE;
    private static final Check check = new Check();

    public static void main(String[] args) {
        theRunOfTheIssue();
        oneKeyAndEverySet();
        besideOtherBars();
        oneKeyWithSeveral();
        itIsAClauseAllTheSame();
        otherReasonsStand();
        itCountsForMost();
        whatItMeansAndShows();
        whatItLacks();
        ofItsOwnEdition();
        struck();
        check.finish();
    }

    /** Marks 1, 2 under the root; picture 0, and picture 1, a copy of it. */
    private static MarkTree small() {
        MarkTree x = new MarkTree();
        x.mark(0);
        x.mark(0);
        x.picture(0, 0, NONE);
        x.picture(1, 0, 0);
        return x;
    }

    private static void theRunOfTheIssue() {
        MarkTree x = new MarkTree();
        x.picture(0, 0, NONE);
        check.due("rule", Check.rule(x, 0, "bar 3 with 3;"), 0);
        x.give(0, 0, 0, 8);
        check.due("key 3 alone", x.told(0, 5), 0);
    }

    /** The key alone, with others, and not at all; one set a picture, so that there are never too many. */
    private static void oneKeyAndEverySet() {
        for (int k = 0; k < KEYS; k++) {
            for (int from = 0; from < SETS; from += SETS / 2) {
                MarkTree x = new MarkTree();
                Check.rule(x, 0, "bar " + k + " with " + k + ";");
                for (int i = 0; i < SETS / 2; i++) {
                    x.picture(i, 0, NONE);
                    x.give(i, 0, 0, from + i);
                    check.due("bar " + k + " with itself, keys " + (from + i), x.told(i, 5), 0);
                }
                check.due("wrong by bar " + k + " with itself", x.count(5), 0);
            }
        }
    }

    /** Every pair of keys beside a key barred with itself: the pair is barred, and nothing else. */
    private static void besideOtherBars() {
        for (int twice = 0; twice < KEYS; twice++) {
            for (int a = 0; a < KEYS; a++) {
                int b = (a + 1) % KEYS;
                String pair = "bar " + a + " with " + b + ";", same = "bar " + twice + " with " + twice + ";";
                setsAgainstPair(same + pair, a, b);
                setsAgainstPair(pair + same, a, b);
            }
        }
        MarkTree x = small();
        Check.rule(x, 0, "bar 0 with 0; bar 1 with 1;");
        Check.rule(x, 0, "bar 2 with 2; bar 2 with 2;");
        x.give(0, 1, 0, 3);
        x.give(0, 1, 0, 7);
        x.give(0, 1, 0, 4);
        check.due("each with itself alone", x.count(5), 0);
    }

    private static void setsAgainstPair(String rule, int a, int b) {
        for (int from = 0; from < SETS; from += SETS / 2) {
            MarkTree x = new MarkTree();
            Check.rule(x, 0, rule);
            for (int i = 0; i < SETS / 2; i++) {
                int keys = from + i;
                x.picture(i, 0, NONE);
                x.give(i, 0, 0, keys);
                boolean both = (keys >> a & 1) == 1 && (keys >> b & 1) == 1;
                check.due(rule + " keys " + keys, x.told(i, 5), both ? 3 : 0);
            }
        }
    }

    /** What bars a key with one more leaves what barred it, with others or twice. */
    private static void oneKeyWithSeveral() {
        for (String rule : new String[] {"bar 2 with 1; bar 2 with 4; bar 2 with 2;", "bar 1 with 2; bar 4 with 2;",
                "bar 2 with 2; bar 2 with 1; bar 2 with 4;", "bar 2 with 4; bar 2 with 2; bar 2 with 1;"}) {
            for (int from = 0; from < SETS; from += SETS / 2) {
                MarkTree x = new MarkTree();
                Check.rule(x, 0, rule);
                for (int i = 0; i < SETS / 2; i++) {
                    int keys = from + i;
                    x.picture(i, 0, NONE);
                    x.give(i, 0, 0, keys);
                    boolean barred = (keys & 4) != 0 && (keys & (2 | 16)) != 0;
                    check.due(rule + " keys " + keys, x.told(i, 5), barred ? 3 : 0);
                }
            }
        }
    }

    private static void itIsAClauseAllTheSame() {
        MarkTree x = small();
        check.due("it has no fault", Check.rule(x, 1, "bar 5 with 5; bar 0 with 1; bar 05 with 5;"), 0);
        check.due("fault", x.fault(), NONE);
        check.due("ahead of it", x.force(0, 8), 0);
        check.due("bar clauses in force", x.force(1, 8), 3);
        check.faultyRule(x, "bar 6 with 6;", 2, 4);
        check.faultyRule(x, "bar 5 with 6;", 2, 11);
        check.due("struck by", Check.rule(x, 2, "strike 0;"), 1);
        check.due("struck", x.force(2, 8), 0);
    }

    private static void otherReasonsStand() {
        MarkTree x = small();
        Check.rule(x, 0, "bar 0 with 0; allow 0 under 1; most 2;");
        x.mark(0);
        x.end(3, NONE);
        x.give(0, 3, 0, 1);
        x.give(0, 2, 0, 1);
        x.give(0, 1, 0, 1);
        x.give(0, 1, 1, 3);
        x.give(0, 1, 2, 1);
        int[] want = {1, 2, 0, 0, 4};
        for (int g = 0; g < want.length; g++) check.due("why giving " + g + " is wrong", x.told(g, 5), want[g]);
        check.due("wrong ones", x.count(5), 3);
    }

    private static void itCountsForMost() {
        MarkTree x = small();
        Check.rule(x, 0, "bar 4 with 4; most 1;");
        x.give(0, 1, 0, 16);
        x.give(0, 1, 1, 0);
        x.give(1, 1, 0, 17);
        x.give(1, 1, 1, 16);
        int[] want = {0, 4, 0, 4};
        for (int g = 0; g < want.length; g++) check.due("most 1, giving " + g, x.told(g, 5), want[g]);
    }

    private static void whatItMeansAndShows() {
        MarkTree x = small();
        Check.rule(x, 0, "bar 1 with 1; bar 2 with 2; key 2 raises; key 3 turns; bar 3 with 3;");
        x.give(0, 1, 0, 2);
        x.give(0, 2, 0, 4);
        x.give(0, 2, 1, 8);
        x.give(1, 1, 1, 0);
        check.due("a key that keeps", x.means(0, 0, 0), 1);
        check.due("a key that raises", x.means(1, 0, 0), 0);
        check.due("a key that turns", x.means(2, 0, 0), NONE);
        check.due("none is wrong", x.count(5), 0);
        check.due("led to 1", x.led(0, 1, 0), 0);
        check.due("not led to 2", x.led(0, 2, 0), NONE);
        check.due("pictures that show 1", x.tree(1, 0, 6), 2);
        check.due("picture 1 lacks nothing of its family", x.lacking(1, 0), 0);
        check.due("seen by both hands", x.hands(0, 1, 2, 0, 0), 1);
        check.due("together", x.together(0, 1, 0, 0, 999, 2), 2);
        Check.ask(x, "mark 1");
        check.due("met", x.met(0, 0, NONE), 2);
        x.edition();
        x.end(1, NONE);
        check.due("needs a look", x.means(0, 1, 1), 1);
        check.due("two need a look", x.count(6), 2);
    }

    private static void whatItLacks() {
        MarkTree x = small();
        Check.rule(x, 0, "bar 0 with 0; need 1 with 2;");
        x.give(0, 1, 0, 1);
        check.due("it lacks", x.means(0, 0, 2), 1);
        check.due("one lacks", x.count(7), 1);
        x.give(0, 2, 0, 1);
        check.due("2 is shown by one with that key", x.means(0, 0, 2), 0);
        check.due("none lacks", x.count(7), 0);
        check.due("lacking", x.lacking(1, 0), 6);
    }

    private static void ofItsOwnEdition() {
        MarkTree x = small();
        x.give(0, 1, 0, 1);
        x.give(0, 1, 0, 3);
        x.edition();
        x.give(0, 1, 0, 1);
        x.give(0, 1, 0, 3);
        Check.rule(x, 1, "bar 0 with 0;");
        check.due("none is wrong", x.count(5), 0);
        Check.rule(x, 1, "bar 1 with 0;");
        int[] want = {0, 0, 0, 3};
        for (int g = 0; g < want.length; g++) check.due("from 1 on, giving " + g, x.told(g, 5), want[g]);
        Check.rule(x, 0, "bar 0 with 0;");
        for (int g = 0; g < want.length; g++) check.due("from 0 on, giving " + g, x.told(g, 5), want[g]);
    }

    private static void struck() {
        MarkTree x = small();
        Check.rule(x, 0, "bar 0 with 1;");
        Check.rule(x, 0, "strike 0; bar 0 with 0; bar 1 with 1;");
        x.give(0, 1, 0, 1);
        x.give(0, 1, 0, 2);
        x.give(0, 1, 0, 3);
        check.due("the pair is struck", x.count(5), 0);
        Check.rule(x, 0, "strike 1;");
        int[] want = {0, 0, 3};
        for (int g = 0; g < want.length; g++) check.due("the strike is struck, giving " + g, x.told(g, 5), want[g]);
    }
}
