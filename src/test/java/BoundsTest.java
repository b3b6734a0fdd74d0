import java.lang.reflect.Method;
import java.lang.reflect.Modifier;
import java.util.ArrayList;
import java.util.HashSet;
import java.util.List;
import java.util.Set;

/**
 * Each number that a call takes, at the last that is taken and the first that is refused on either
 * side; and of several refusals the first in their order, for every choice of what is wrong.
 */
public final class BoundsTest {
    private static final int NONE = MarkTree.NONE, UNKNOWN = MarkTree.UNKNOWN, OUTSIDE = MarkTree.OUTSIDE;
    private static final int NOT = MarkTree.NOT, FULL = MarkTree.FULL;
    private static final Check check = new Check();
    /** Which number of which call was tried. */
    private static final Set<String> tried = new HashSet<>();

    /** A number that a call may be given, and how it is refused; 0: it is not. */
    private record Choice(long value, int refusal) { }

    public static void main(String[] args) {
        boundsOfTheTree();
        boundsOfPictures();
        boundsOfTexts();
        boundsOfLooks();
        boundsOfStories();
        everyNumberWasTried();
        editionsUpToNow();
        orderInTheTree();
        orderOfPictures();
        orderOfDoubts();
        orderOfTexts();
        orderOfLooks();
        orderOfStories();
        check.finish();
    }

    // ---- bounds

    private static void bounds(int refusal, Call call, int i, long low, long high) {
        tried.add(call.name() + " " + i);
        for (long value : new long[] {low, low + 1, (low + high) / 2, high - 1, high}) {
            if (value < low || value > high) continue;
            Call taken = call.with(i, value);
            check.that(taken + " is not answered by " + refusal, taken.on(Made.small()) != refusal);
        }
        for (long value : new long[] {low - 1, low - 2, high + 1, high + 2, high + 256, high + 65536,
            Integer.MIN_VALUE, Integer.MIN_VALUE + 1, Integer.MAX_VALUE}) {
            Call refused = call.with(i, value);
            check.due(refused.toString(), refused.on(Made.small()), refusal);
        }
    }

    private static void boundsOfTheTree() {
        bounds(UNKNOWN, new Call("mark", 0), 0, 0, 4);
        bounds(UNKNOWN, new Call("move", 1, 0), 0, 0, 4);
        bounds(UNKNOWN, new Call("move", 1, 0), 1, 0, 4);
        bounds(UNKNOWN, new Call("end", 1, 2), 0, 0, 4);
        bounds(UNKNOWN, new Call("end", 1, 2), 1, NONE, 4);
        bounds(UNKNOWN, new Call("tree", 1, 0, 0), 0, 0, 4);
        bounds(OUTSIDE, new Call("tree", 1, 0, 0), 1, 0, 2);
        bounds(OUTSIDE, new Call("tree", 1, 0, 0), 2, 0, 6);
        bounds(UNKNOWN, new Call("below", 1, 2, 0), 0, 0, 4);
        bounds(UNKNOWN, new Call("below", 1, 2, 0), 1, 0, 4);
        bounds(OUTSIDE, new Call("below", 1, 2, 0), 2, 0, 2);
    }

    private static void boundsOfPictures() {
        bounds(OUTSIDE, new Call("picture", 0, 0, NONE), 0, 0, 999);
        bounds(OUTSIDE, new Call("picture", 0, 0, NONE), 1, 0, 9);
        bounds(UNKNOWN, new Call("picture", 0, 0, NONE), 2, NONE, 2);
        bounds(UNKNOWN, new Call("give", 0, 1, 0, 0), 0, 0, 2);
        bounds(UNKNOWN, new Call("give", 0, 1, 0, 0), 1, 0, 4);
        bounds(OUTSIDE, new Call("give", 0, 1, 0, 0), 2, 0, 7);
        bounds(OUTSIDE, new Call("give", 0, 1, 0, 0), 3, 0, 63);
        bounds(UNKNOWN, new Call("doubt", 0, 1), 0, 0, 3);
        bounds(OUTSIDE, new Call("doubt", 0, 1), 1, 0, 7);
        bounds(UNKNOWN, new Call("told", 0, 0), 0, 0, 3);
        bounds(OUTSIDE, new Call("told", 0, 0), 1, 0, 6);
        bounds(UNKNOWN, new Call("means", 0, 0, 0), 0, 0, 3);
        bounds(OUTSIDE, new Call("means", 0, 0, 0), 1, 0, 2);
        bounds(OUTSIDE, new Call("means", 0, 0, 0), 2, 0, 2);
        bounds(UNKNOWN, new Call("led", 0, 1, 0), 0, 0, 2);
        bounds(UNKNOWN, new Call("led", 0, 1, 0), 1, 0, 4);
        bounds(OUTSIDE, new Call("led", 0, 1, 0), 2, 0, 2);
        bounds(OUTSIDE, new Call("count", 0), 0, 0, 12);
    }

    private static void boundsOfTexts() {
        bounds(OUTSIDE, new Call("feed", 1, 0), 0, 1, 8);
        bounds(OUTSIDE, new Call("rule", 0), 0, 0, 9);
        bounds(OUTSIDE, new Call("force", 0, 0), 0, 0, 9);
        bounds(OUTSIDE, new Call("force", 0, 0), 1, 0, 9);
        bounds(OUTSIDE, new Call("word", 0, 0, 1), 0, 0, 3);
        bounds(OUTSIDE, new Call("word", 0, 0, 1), 1, 0, 99);
        bounds(UNKNOWN, new Call("word", 0, 0, 1), 2, 0, 4);
        bounds(OUTSIDE, new Call("leads", 0, 0), 0, 0, 3);
        bounds(OUTSIDE, new Call("leads", 0, 0), 1, 0, 99);
    }

    private static void boundsOfLooks() {
        bounds(UNKNOWN, new Call("met", 0, 0, NONE), 0, 0, 0);
        bounds(OUTSIDE, new Call("met", 0, 0, NONE), 1, 0, 2);
        bounds(OUTSIDE, new Call("hands", 0, 7, 1, 0, 0), 0, 0, 6);
        bounds(OUTSIDE, new Call("hands", 7, 0, 1, 0, 0), 1, 0, 6);
        for (int a = -1; a <= 8; a++) for (int b = -1; b <= 8; b++) tryHands(a, b);
        bounds(UNKNOWN, new Call("hands", 0, 1, 1, 0, 0), 2, 0, 4);
        bounds(OUTSIDE, new Call("hands", 0, 1, 1, 0, 0), 3, 0, 2);
        bounds(OUTSIDE, new Call("hands", 0, 1, 1, 0, 0), 4, 0, 4);
        Call together = new Call("together", 1, 2, 0, 0, 999, 0);
        bounds(UNKNOWN, together, 0, 0, 4);
        bounds(UNKNOWN, together, 1, 0, 4);
        bounds(OUTSIDE, together, 2, 0, 2);
        bounds(OUTSIDE, together, 3, 0, 999);
        bounds(OUTSIDE, together, 4, 0, 999);
        bounds(OUTSIDE, together, 5, 0, 4);
        bounds(OUTSIDE, together.with(4, 500), 3, 0, 500);
        bounds(OUTSIDE, together.with(3, 500), 4, 500, 999);
        for (String name : new String[] {"along", "likely"}) {
            bounds(UNKNOWN, new Call(name, 1, 0, NONE), 0, 0, 4);
            bounds(OUTSIDE, new Call(name, 1, 0, NONE), 1, 0, 2);
        }
    }

    private static void tryHands(int a, int b) {
        boolean taken = a >= 0 && a <= 7 && b >= 0 && b <= 7 && a != b;
        Call call = new Call("hands", a, b, 1, 0, 0);
        check.that(call + " is " + (taken ? "taken" : "refused"), taken == (call.on(Made.small()) != OUTSIDE));
    }

    private static void boundsOfStories() {
        bounds(UNKNOWN, new Call("lacking", 0, 0), 0, 0, 2);
        bounds(OUTSIDE, new Call("lacking", 0, 0), 1, 0, 2);
        bounds(UNKNOWN, new Call("moment", 0, 0, 1), 0, 0, 0);
        bounds(OUTSIDE, new Call("moment", 0, 0, 1), 1, 0, 2);
        bounds(UNKNOWN, new Call("moment", 0, 0, 1), 2, 0, 4);
        bounds(UNKNOWN, new Call("of", 0, 0, 0, 0), 0, 0, 2);
        bounds(UNKNOWN, new Call("of", 0, 0, 0, 0), 1, 0, 0);
        bounds(OUTSIDE, new Call("of", 0, 0, 0, 0), 2, 0, 2);
        bounds(OUTSIDE, new Call("of", 0, 0, 0, 0), 3, 0, 2);
        bounds(UNKNOWN, new Call("split", 1, 0, 0), 0, 0, 4);
        bounds(OUTSIDE, new Call("split", 1, 0, 0), 1, 0, 2);
        bounds(OUTSIDE, new Call("split", 1, 0, 0), 2, 0, 1);
    }

    /** All but those that have no bounds: the bytes of feed, and which one of a row is asked for. */
    private static void everyNumberWasTried() {
        Set<String> free = Set.of("feed 1", "met 2", "along 2", "likely 2");
        for (Method m : MarkTree.class.getDeclaredMethods()) {
            if (!Modifier.isPublic(m.getModifiers())) continue;
            for (int i = 0; i < m.getParameterCount(); i++) {
                String number = m.getName() + " " + i;
                check.that("bounds of " + number + " are tried", tried.contains(number) != free.contains(number));
            }
        }
        for (String name : new String[] {"met", "along", "likely"}) {
            for (int i : new int[] {-2, 3, 40, 41, 64, Integer.MAX_VALUE, Integer.MIN_VALUE}) {
                check.due(name + " of none such: " + i, new Call(name, 0, 0, i).on(Made.small()), NONE);
            }
        }
    }

    /** An edition is there to be asked for as soon as NOW is that one, and not ahead of it. */
    private static void editionsUpToNow() {
        MarkTree x = new MarkTree();
        x.picture(0, 0, NONE);
        x.mark(0);
        x.give(0, 1, 0, 0);
        x.story();
        Check.ask(x, "at 0");
        Call[] calls = {new Call("tree", 0, 0, 0), new Call("below", 0, 0, 0), new Call("means", 0, 0, 0),
            new Call("led", 0, 0, 0), new Call("met", 0, 0, NONE), new Call("hands", 0, 1, 0, 0, 0),
            new Call("together", 0, 0, 0, 0, 0, 0), new Call("along", 0, 0, NONE), new Call("likely", 0, 0, NONE),
            new Call("lacking", 0, 0), new Call("of", 0, 0, 0, 0), new Call("split", 0, 0, 0)};
        int[] at = {1, 2, 1, 2, 1, 3, 2, 1, 1, 1, 2, 1};
        for (int now = 0; now <= 9; now++) {
            for (int k = 0; k < calls.length; k++) {
                check.that(calls[k] + " in NOW, " + now, calls[k].with(at[k], now).on(x) != OUTSIDE);
                check.due(calls[k] + " after NOW, " + now, calls[k].with(at[k], now + 1).on(x), OUTSIDE);
            }
            x.edition();
        }
    }

    // ---- the order of refusals

    private static Choice[] good(long... values) {
        Choice[] row = new Choice[values.length];
        for (int i = 0; i < row.length; i++) row[i] = new Choice(values[i], 0);
        return row;
    }

    private static Choice[] bad(Choice[] row, int refusal, long... values) {
        List<Choice> all = new ArrayList<>(List.of(row));
        for (long value : values) all.add(new Choice(value, refusal));
        return all.toArray(new Choice[0]);
    }

    /** A mark and the like: this one there is, this one not. */
    private static Choice[] known(long yes, long no) {
        return bad(good(yes), UNKNOWN, no, -2, Integer.MAX_VALUE);
    }

    private static Choice[] within(long yes, long below, long above) {
        return bad(good(yes), OUTSIDE, below, above);
    }

    /** The refusals stand from UNKNOWN down to FULL: the greater number comes first; 0 is none. */
    private static int firstOf(int a, int b) {
        if (a == 0 || b == 0) return a + b;
        return Math.max(a, b);
    }

    /** Every choice of one from each row; otherwise: how the call is refused if nothing is wrong with it. */
    private static void order(boolean full, String name, int otherwise, Choice[]... rows) {
        int all = 1;
        for (Choice[] row : rows) all *= row.length;
        for (int choice = 0; choice < all; choice++) {
            long[] args = new long[rows.length];
            int due = 0;
            for (int i = 0, rest = choice; i < rows.length; i++) {
                Choice one = rows[i][rest % rows[i].length];
                rest /= rows[i].length;
                args[i] = one.value;
                due = firstOf(due, one.refusal);
            }
            due = firstOf(due, otherwise);
            Call call = new Call(name, args);
            long got = call.on(full ? Made.full() : Made.small());
            if (due != 0) check.due(call + (full ? " when full" : ""), got, due);
            else check.that(call + " is not refused, but " + got, got > UNKNOWN);
        }
    }

    private static void orderInTheTree() {
        order(false, "mark", 0, bad(bad(good(0, 3), UNKNOWN, 5, -1), NOT, 4));
        order(true, "mark", FULL, bad(bad(good(0, 38), UNKNOWN, 40, -1), NOT, 39));
        Choice[] moved = bad(bad(good(2), UNKNOWN, 5, -1), NOT, 0, 4);
        order(false, "move", 0, moved, bad(bad(good(0, 1), UNKNOWN, 5, -1), NOT, 2, 4));
        order(false, "end", 0, moved, bad(bad(good(0, 1, NONE), UNKNOWN, 5, -2), NOT, 2, 4));
        order(false, "tree", 0, known(1, 5), within(0, -1, 3), within(0, -1, 7));
        order(false, "below", 0, known(1, 5), known(2, 5), within(0, -1, 3));
        order(true, "edition", NOT);
        order(false, "edition", 0);
    }

    private static void orderOfPictures() {
        Choice[] year = within(0, -1, 1000), place = within(0, -1, 10), hand = within(0, -1, 8), keys = within(0, -1, 64);
        order(false, "picture", 0, year, place, bad(good(NONE, 2), UNKNOWN, 3, -2));
        order(true, "picture", FULL, year, place, bad(good(NONE, 39), UNKNOWN, 40, -2));
        order(false, "give", 0, known(0, 3), known(1, 5), hand, keys);
        order(true, "give", FULL, known(39, 40), known(39, 40), hand, keys);
        order(false, "told", 0, known(3, 4), within(0, -1, 7));
        order(false, "led", 0, known(0, 3), known(1, 5), within(0, -1, 3));
        order(false, "count", 0, within(0, -1, 13));
    }

    private static void orderOfDoubts() {
        order(false, "doubt", 0, known(0, 4), within(1, -1, 8));
        order(false, "doubt", 0, known(0, 4), bad(within(7, -1, 8), NOT, 0));
        order(false, "doubt", 0, known(1, 4), bad(within(7, -1, 8), NOT, 0, 1));
        order(false, "means", 0, known(0, 4), within(2, -1, 3), within(0, -1, 3));
        order(false, "means", 0, known(3, 4), bad(within(2, -1, 3), NOT, 0, 1), within(0, -1, 3));
    }

    private static void orderOfTexts() {
        order(false, "feed", 0, within(8, 0, 9), good(0));
        order(true, "feed", FULL, within(1, 0, 9), good(0));
        order(false, "rule", 0, bad(good(0, 9), OUTSIDE, -1, 10));
        order(true, "rule", FULL, within(0, -1, 10));
        order(false, "force", 0, within(9, -1, 10), within(9, -1, 10));
        order(false, "word", 0, within(1, -1, 4), within(3, -1, 100), known(2, 5));
        order(false, "word", NOT, within(1, -1, 4), within(2, -1, 100), known(2, 5));
        order(true, "word", FULL, within(1, -1, 4), within(2, -1, 100), known(2, 40));
        order(true, "word", NOT, within(1, -1, 4), within(1, -1, 100), known(1, 40));
        order(false, "leads", 0, within(1, -1, 4), within(2, -1, 100));
        order(true, "ask", NOT);
    }

    private static void orderOfLooks() {
        Choice[] edition = within(0, -1, 3);
        order(false, "met", 0, known(0, 1), edition, good(NONE, 0, 40));
        order(false, "hands", 0, within(1, -1, 8), within(0, -1, 8), known(1, 5), edition, within(0, -1, 5));
        order(false, "hands", OUTSIDE, good(3), good(3), known(1, 5), edition, within(0, -1, 5));
        Choice[] from = within(7, -1, 1000), to = within(7, 6, 1000);
        order(false, "together", 0, known(1, 5), known(2, 5), edition, from, to, within(0, -1, 5));
        order(false, "along", 0, known(1, 5), edition, good(NONE, 0, 40));
        order(false, "likely", 0, known(1, 5), edition, good(NONE, 0, 40));
    }

    private static void orderOfStories() {
        Choice[] edition = within(0, -1, 3);
        order(false, "lacking", 0, known(0, 3), edition);
        order(true, "story", FULL);
        order(false, "story", 0);
        order(false, "moment", 0, known(0, 1), within(0, -1, 3), known(1, 5));
        order(false, "moment", FULL, known(0, 1), within(1, -1, 3), known(1, 5));
        order(true, "moment", FULL, known(0, 4), within(5, -1, 6), known(1, 40));
        order(true, "moment", 0, known(2, 4), within(4, -1, 5), known(1, 40));
        order(true, "moment", 0, known(3, 4), within(4, -1, 6), known(1, 40));
        order(false, "of", 0, known(0, 3), known(0, 1), edition, within(0, -1, 3));
        order(false, "split", 0, known(1, 5), edition, within(0, -1, 2));
    }
}
