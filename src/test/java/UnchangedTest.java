import java.util.ArrayList;
import java.util.List;
import java.util.function.Supplier;

/**
 * What is refused changes nothing: of two objects alike one is refused a call; all that later calls
 * show must be the same of both, what they look at and what they change.
 */
public final class UnchangedTest {
    private static final int NONE = MarkTree.NONE, UNKNOWN = MarkTree.UNKNOWN, OUTSIDE = MarkTree.OUTSIDE;
    private static final int NOT = MarkTree.NOT, FULL = MarkTree.FULL;
    /** With the calls that make an object it stays within the 512 that it has. */
    private static final int LOOKS_AT_ONCE = 110;
    private static final Check check = new Check();

    private static final List<Call> smallLooks = looks(5, 3, 4, 1, 1, 3);
    private static final List<Call> fullLooks = fewer(looks(40, 40, 120, 8, 4, 10), 1500);

    public static void main(String[] args) {
        refusedInTheTree();
        refusedPictures();
        refusedTexts();
        refusedLooks();
        refusedStories();
        refusedWhenFull();
        longAsk();
        check.finish();
    }

    // ---- what can be seen of an object

    private static List<Call> looks(int marks, int pictures, int givings, int asks, int stories, int editions) {
        List<Call> all = new ArrayList<>();
        for (int what = 0; what <= 12; what++) all.add(new Call("count", what));
        all.add(new Call("fault"));
        for (int e = 0; e <= 9; e++) for (int what = 0; what <= 9; what++) all.add(new Call("force", e, what));
        for (int t = 0; t <= 3; t++) for (int w = 0; w <= 60; w++) all.add(new Call("leads", t, w));
        for (int g = 0; g < givings; g++) for (int what = 0; what <= 6; what++) all.add(new Call("told", g, what));
        for (int e = 0; e < editions; e++) {
            addOfMarks(all, marks, e);
            for (int g = 0; g < givings; g++) for (int what = 0; what <= 2; what++) all.add(new Call("means", g, e, what));
            for (int p = 0; p < pictures; p++) addOfPicture(all, p, marks, stories, e);
            for (int a = 0; a < asks; a++) for (int i = -1; i <= 3; i++) all.add(new Call("met", a, e, i));
        }
        return all;
    }

    private static void addOfMarks(List<Call> all, int marks, int e) {
        for (int m = 0; m < marks; m++) {
            for (int what = 0; what <= 6; what++) all.add(new Call("tree", m, e, what));
            for (int what = 0; what <= 1; what++) all.add(new Call("split", m, e, what));
            for (int what = 0; what <= 4; what++) all.add(new Call("hands", 0, 1, m, e, what));
            for (int i = -1; i <= 2; i++) all.add(new Call("along", m, e, i));
            for (int i = -1; i <= 2; i++) all.add(new Call("likely", m, e, i));
            for (int n = 0; n < marks; n++) all.add(new Call("below", n, m, e));
            for (int n = 0; n < marks; n++) all.add(new Call("together", m, n, e, 0, 999, 4));
        }
    }

    private static void addOfPicture(List<Call> all, int p, int marks, int stories, int e) {
        for (int m = 0; m < marks; m++) all.add(new Call("led", p, m, e));
        all.add(new Call("lacking", p, e));
        for (int s = 0; s < stories; s++) for (int what = 0; what <= 2; what++) all.add(new Call("of", p, s, e, what));
    }

    /** Some of them, from all over the row. */
    private static List<Call> fewer(List<Call> all, int many) {
        List<Call> some = new ArrayList<>();
        for (int k = 0; k < many; k++) some.add(all.get((int) ((long) k * all.size() / many)));
        return some;
    }

    /** Calls that change the object, so that numbers that come next and the text are seen too. */
    private static List<Call> changes() {
        List<Call> all = new ArrayList<>();
        all.add(new Call("feed", 1, ';'));
        all.add(new Call("rule", 1));
        all.add(new Call("fault"));
        for (int what = 0; what <= 9; what++) all.add(new Call("force", 2, what));
        all.add(new Call("feed", 4, 0x61742039));
        all.add(new Call("ask"));
        all.add(new Call("picture", 1, 2, 0));
        all.add(new Call("mark", 3));
        all.add(new Call("give", 1, 3, 5, 0));
        for (int g = 0; g <= 4; g++) for (int hand = 0; hand <= 7; hand++) all.add(new Call("doubt", g, hand));
        for (int m = 0; m <= 5; m++) all.add(new Call("word", 1, 2, m));
        all.add(new Call("story"));
        for (int i = 0; i <= 5; i++) for (int k = 0; k < 4; k++) all.add(new Call("moment", 0, i, k));
        all.add(new Call("move", 2, 1));
        all.add(new Call("move", 1, 4));
        all.add(new Call("end", 3, 2));
        for (int e = 3; e <= 10; e++) all.add(new Call("edition"));
        for (int what = 0; what <= 12; what++) all.add(new Call("count", what));
        return all;
    }

    private static void unchanged(Supplier<MarkTree> made, List<Call> looks, long refusal, Call refused) {
        for (int from = 0; from < looks.size(); from += LOOKS_AT_ONCE) {
            same(made, looks.subList(from, Math.min(looks.size(), from + LOOKS_AT_ONCE)), refusal, refused);
        }
        same(made, changes(), refusal, refused);
    }

    private static void same(Supplier<MarkTree> made, List<Call> calls, long refusal, Call refused) {
        MarkTree x = made.get(), y = made.get();
        check.due(refused.toString(), refused.on(x), refusal);
        for (Call call : calls) check.due(call + " after the refused " + refused, call.on(x), call.on(y));
    }

    private static void small(long refusal, String name, long... args) {
        unchanged(Made::small, smallLooks, refusal, new Call(name, args));
    }

    private static void full(long refusal, String name, long... args) {
        unchanged(Made::full, fullLooks, refusal, new Call(name, args));
    }

    // ---- what is refused

    private static void refusedInTheTree() {
        small(UNKNOWN, "mark", 5);
        small(UNKNOWN, "mark", NONE);
        small(NOT, "mark", 4);
        small(UNKNOWN, "move", 5, 0);
        small(UNKNOWN, "move", 1, 5);
        small(NOT, "move", 0, 1);
        small(NOT, "move", 4, 1);
        small(NOT, "move", 1, 4);
        small(NOT, "move", 1, 1);
        small(NOT, "move", 1, 2);
        small(UNKNOWN, "end", 5, NONE);
        small(UNKNOWN, "end", 1, 5);
        small(UNKNOWN, "end", 1, -2);
        small(NOT, "end", 0, NONE);
        small(NOT, "end", 0, 1);
        small(NOT, "end", 4, NONE);
        small(NOT, "end", 4, 1);
        small(NOT, "end", 1, 4);
        small(NOT, "end", 1, 1);
    }

    private static void refusedPictures() {
        small(UNKNOWN, "picture", 0, 0, 3);
        small(OUTSIDE, "picture", 1000, 0, NONE);
        small(OUTSIDE, "picture", 0, 10, NONE);
        small(UNKNOWN, "give", 3, 0, 0, 0);
        small(UNKNOWN, "give", 0, 5, 0, 0);
        small(OUTSIDE, "give", 0, 0, 8, 0);
        small(OUTSIDE, "give", 0, 0, 0, 64);
        small(UNKNOWN, "doubt", 4, 0);
        small(OUTSIDE, "doubt", 0, 8);
        small(NOT, "doubt", 0, 0);
        small(NOT, "doubt", 1, 0);
        small(UNKNOWN, "told", 4, 5);
        small(OUTSIDE, "told", 0, 7);
        small(UNKNOWN, "means", 4, 0, 0);
        small(OUTSIDE, "means", 0, 3, 0);
        small(NOT, "means", 3, 1, 0);
        small(UNKNOWN, "led", 3, 0, 0);
        small(OUTSIDE, "led", 0, 0, 3);
        small(OUTSIDE, "count", 13);
    }

    private static void refusedTexts() {
        small(OUTSIDE, "feed", 0, -1);
        small(OUTSIDE, "feed", 9, -1);
        small(OUTSIDE, "rule", -1);
        small(OUTSIDE, "rule", 10);
        small(OUTSIDE, "force", 10, 0);
        small(OUTSIDE, "force", 0, 10);
        small(UNKNOWN, "word", 1, 2, 5);
        small(OUTSIDE, "word", 4, 2, 0);
        small(OUTSIDE, "word", 1, 100, 0);
        small(NOT, "word", 1, 2, 2);
        small(OUTSIDE, "leads", 4, 0);
        small(UNKNOWN, "met", 1, 0, 0);
        small(OUTSIDE, "met", 0, 3, 0);
    }

    private static void refusedLooks() {
        small(UNKNOWN, "tree", 5, 0, 6);
        small(OUTSIDE, "tree", 0, 3, 6);
        small(OUTSIDE, "tree", 0, 0, 7);
        small(OUTSIDE, "below", 0, 0, 3);
        small(UNKNOWN, "hands", 0, 1, 5, 0, 0);
        small(OUTSIDE, "hands", 1, 1, 0, 0, 0);
        small(OUTSIDE, "hands", 0, 1, 0, 3, 0);
        small(UNKNOWN, "together", 5, 0, 0, 0, 999, 0);
        small(OUTSIDE, "together", 0, 0, 0, 1, 0, 0);
        small(UNKNOWN, "along", 5, 0, NONE);
        small(OUTSIDE, "along", 0, 3, NONE);
        small(UNKNOWN, "likely", 5, 0, NONE);
        small(OUTSIDE, "likely", 0, 3, NONE);
    }

    private static void refusedStories() {
        small(UNKNOWN, "lacking", 3, 0);
        small(OUTSIDE, "lacking", 0, 3);
        small(UNKNOWN, "moment", 1, 0, 1);
        small(UNKNOWN, "moment", 0, 0, 5);
        small(OUTSIDE, "moment", 0, 3, 1);
        small(OUTSIDE, "moment", 0, -1, 1);
        small(FULL, "moment", 0, 1, 1);
        small(UNKNOWN, "of", 3, 0, 0, 0);
        small(OUTSIDE, "of", 0, 0, 3, 0);
        small(UNKNOWN, "split", 5, 0, 0);
        small(OUTSIDE, "split", 0, 3, 0);
    }

    private static void refusedWhenFull() {
        full(NOT, "edition");
        full(FULL, "mark", 0);
        full(FULL, "picture", 0, 0, NONE);
        full(FULL, "picture", 999, 9, 39);
        full(FULL, "give", 39, 38, 7, 63);
        full(FULL, "feed", 1, -1);
        full(FULL, "feed", 8, -1);
        full(FULL, "rule", 0);
        full(FULL, "word", 0, 0, 5);
        full(NOT, "word", 3, 59, 20);
        full(NOT, "ask");
        full(FULL, "story");
        full(FULL, "moment", 0, 5, 1);
        full(FULL, "moment", 3, 3, 1);
    }

    /** A text of 101 bytes is no ask, whether there is room for one or not; it stays, as the fault does. */
    private static void longAsk() {
        Supplier<MarkTree> made = () -> {
            MarkTree x = Made.small();
            Check.text(x, ";" + " ".repeat(100 - x.count(9)));
            return x;
        };
        unchanged(made, smallLooks, NOT, new Call("ask"));
        Supplier<MarkTree> eight = () -> {
            MarkTree x = Made.small();
            x.ask();
            for (int a = 1; a < 8; a++) Check.ask(x, "mark 1");
            Check.text(x, "mark 3");
            return x;
        };
        unchanged(eight, smallLooks, FULL, new Call("ask"));
    }
}
