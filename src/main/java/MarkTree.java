import java.util.Arrays;

/**
 * What the picture shows: a tree of marks by editions, givings of marks to pictures, rules of
 * marking, asks in words, and what can be read out of all of them together.
 *
 * <p>Sets of marks and of pictures are longs, bit k for number k; there are at most forty of each.
 * Nothing is made after the constructor: every row that a call needs lies ready.
 */
public final class MarkTree {
    public static final int NONE = -1, UNKNOWN = -1001, OUTSIDE = -1002, NOT = -1003, FULL = -1004;

    private static final int EDITIONS = 10;
    private static final int MOST_MARKS = 40;
    private static final int MOST_PICTURES = 40;
    /** A set has a bit for each mark or picture. */
    private static final int MOST_BITS = 40;
    private static final int LAST_YEAR = 999;
    private static final int PLACES = 10;
    private static final int KEYS = 6;
    private static final int HANDS = 8;
    private static final int MOST_GIVINGS = 120;
    private static final int MOST_RULES = 8;
    private static final int MOST_CLAUSES = 8;
    private static final int TEXT_BYTES = 160;
    private static final int TONGUES = 4;
    private static final int WORDS = 100;
    private static final int MOST_WORDS = 60;
    private static final int MOST_ASKS = 8;
    private static final int ASK_BYTES = 100;
    private static final int MOST_BRACKETS = 5;
    private static final int MOST_STORIES = 4;
    private static final int MOST_MOMENTS = 5;
    private static final int MOMENT_MARKS = 3;

    private static final int KEEPS = 0, TURNS = 1, RAISES = 2;

    private final Tree tree;
    private final Pictures pictures;
    private final Givings givings;
    private final Text text;
    private final Rules rules;
    private final Force force;
    private final Words words;
    private final Asks asks;
    private final Stories stories;
    private final View view;
    private int now;
    private int faultAt;

    public MarkTree() {
        tree = new Tree();
        pictures = new Pictures();
        givings = new Givings();
        text = new Text();
        rules = new Rules();
        force = new Force();
        words = new Words();
        asks = new Asks();
        stories = new Stories();
        view = new View(tree, givings, rules);
        now = 0;
        faultAt = NONE;
    }

    // ---- the tree

    public int edition() {
        if (now >= EDITIONS - 1) return NOT;
        now++;
        return now;
    }

    public int mark(int parent) {
        if (!tree.has(parent)) return UNKNOWN;
        if (!tree.isThere(parent, now)) return NOT;
        view.forget();
        return tree.add(parent, now);
    }

    public int move(int m, int parent) {
        if (!tree.has(m) || !tree.has(parent)) return UNKNOWN;
        if (m == 0 || !tree.isThere(m, now) || !tree.isThere(parent, now)) return NOT;
        if (tree.isBelow(parent, m, now)) return NOT;
        view.forget();
        int before = tree.parentIn(m, now);
        tree.setParent(m, parent, now);
        return before;
    }

    public int end(int m, int to) {
        if (!tree.has(m) || (to != NONE && !tree.has(to))) return UNKNOWN;
        if (m == 0 || m == to || !tree.isThere(m, now)) return NOT;
        if (to != NONE && !tree.isThere(to, now)) return NOT;
        view.forget();
        tree.ended[m] = now;
        tree.joined[m] = to;
        return tree.countBelow(m, now) - 1;
    }

    public int tree(int m, int e, int what) {
        if (!tree.has(m)) return UNKNOWN;
        if (!isKnownEdition(e) || !isWithin(what, 0, 6)) return OUTSIDE;
        switch (what) {
            case 0: return oneIf(tree.isThere(m, e));
            case 1: return tree.parentIn(m, e);
            case 2: return tree.countBelow(m, e);
            case 3: return tree.joined[m];
            case 4: return tree.told[m];
            case 5: return tree.ended[m];
            default:
                view.lookIn(e);
                return Long.bitCount(view.showing(m));
        }
    }

    public int below(int n, int m, int e) {
        if (!tree.has(n) || !tree.has(m)) return UNKNOWN;
        if (!isKnownEdition(e)) return OUTSIDE;
        return oneIf(tree.isBelow(n, m, e));
    }

    // ---- pictures, givings

    public int picture(int year, int place, int copy) {
        if (copy != NONE && !pictures.has(copy)) return UNKNOWN;
        if (!isYear(year) || !isWithin(place, 0, PLACES - 1)) return OUTSIDE;
        return pictures.add(year, place, copy);
    }

    public int give(int p, int m, int hand, int keys) {
        if (!pictures.has(p) || !tree.has(m)) return UNKNOWN;
        if (!isHand(hand) || !isWithin(keys, 0, (1 << KEYS) - 1)) return OUTSIDE;
        view.forget();
        return givings.add(p, m, hand, keys, now);
    }

    public int doubt(int g, int hand) {
        if (!givings.has(g)) return UNKNOWN;
        if (!isHand(hand)) return OUTSIDE;
        if (givings.hand[g] == hand || givings.doubted[g][hand] != NONE) return NOT;
        view.forget();
        givings.doubted[g][hand] = now;
        return givings.doubters(g, now);
    }

    public int told(int g, int what) {
        if (!givings.has(g)) return UNKNOWN;
        if (!isWithin(what, 0, 6)) return OUTSIDE;
        switch (what) {
            case 0: return givings.picture[g];
            case 1: return givings.mark[g];
            case 2: return givings.hand[g];
            case 3: return givings.keys[g];
            case 4: return givings.edition[g];
            case 5:
                view.judge();
                return view.wrong[g];
            default: return givings.doubters(g, now);
        }
    }

    public int means(int g, int e, int what) {
        if (!givings.has(g)) return UNKNOWN;
        if (!isKnownEdition(e) || !isWithin(what, 0, 2)) return OUTSIDE;
        if (givings.edition[g] > e) return NOT;
        view.lookIn(e);
        switch (what) {
            case 0: return view.meaning[g];
            case 1: return oneIf(view.needsLook[g]);
            default:
                force.setTo(rules, e);
                return oneIf(view.isLacking(g, force));
        }
    }

    public int led(int p, int m, int e) {
        if (!pictures.has(p) || !tree.has(m)) return UNKNOWN;
        if (!isKnownEdition(e)) return OUTSIDE;
        view.lookIn(e);
        for (int g = 0; g < givings.size; g++) {
            if (givings.picture[g] == p && view.meansBelow(g, m)) return g;
        }
        return NONE;
    }

    public int count(int what) {
        if (!isWithin(what, 0, 12)) return OUTSIDE;
        switch (what) {
            case 0: return now;
            case 1: return tree.size;
            case 2: return tree.countThere(now);
            case 3: return pictures.size;
            case 4: return givings.size;
            case 5:
                view.judge();
                return view.countWrong();
            case 6:
                view.lookIn(now);
                return view.countNeedingLook();
            case 7:
                view.lookIn(now);
                force.setTo(rules, now);
                return view.countLacking(force);
            case 8: return rules.size;
            case 9: return text.length;
            case 10: return words.size;
            case 11: return asks.size;
            default: return stories.size;
        }
    }

    // ---- rules

    public int feed(int n, long bytes) {
        if (!isWithin(n, 1, 8)) return OUTSIDE;
        if (text.length + n > TEXT_BYTES) return FULL;
        for (int k = n - 1; k >= 0; k--) text.add((int) (bytes >>> (8 * k)) & 255);
        return text.length;
    }

    public int rule(int e) {
        if (!isWithin(e, 0, EDITIONS - 1)) return OUTSIDE;
        if (rules.size >= MOST_RULES) return FULL;
        view.forget();
        int number = rules.size;
        rules.read(text, e);
        return afterReading(number);
    }

    public int fault() {
        return faultAt;
    }

    public int force(int e, int what) {
        if (!isWithin(e, 0, EDITIONS - 1) || !isWithin(what, 0, 9)) return OUTSIDE;
        force.setTo(rules, e);
        switch (what) {
            case 0: return force.most;
            case 7: return force.allows;
            case 8: return force.bars;
            case 9: return force.needs;
            default: return force.senses[what - 1];
        }
    }

    // ---- words, asks

    public int word(int t, int w, int m) {
        if (!tree.has(m)) return UNKNOWN;
        if (!isWord(t, w)) return OUTSIDE;
        if (((words.marksOf(t, w) >>> m) & 1) != 0) return NOT;
        return words.add(t, w, m);
    }

    public int leads(int t, int w) {
        if (!isWord(t, w)) return OUTSIDE;
        return Math.min(2, Long.bitCount(words.marksOf(t, w)));
    }

    public int ask() {
        if (text.length > ASK_BYTES) return NOT;
        if (asks.size >= MOST_ASKS) return FULL;
        int number = asks.size;
        asks.read(text);
        return afterReading(number);
    }

    public int met(int a, int e, int i) {
        if (!asks.has(a)) return UNKNOWN;
        if (!isKnownEdition(e)) return OUTSIDE;
        view.lookIn(e);
        return pick(metBy(a, e), i);
    }

    // ---- hands, together, likely

    public int hands(int a, int b, int m, int e, int what) {
        if (!tree.has(m)) return UNKNOWN;
        if (!isHand(a) || !isHand(b) || a == b) return OUTSIDE;
        if (!isKnownEdition(e) || !isWithin(what, 0, 4)) return OUTSIDE;
        view.lookIn(e);
        long both = givings.picturesOf(a, e) & givings.picturesOf(b, e);
        long sawA = view.seenBy(a, m) & both;
        long sawB = view.seenBy(b, m) & both;
        switch (what) {
            case 0: return Long.bitCount(both);
            case 1: return Long.bitCount(sawA);
            case 2: return Long.bitCount(sawB);
            case 3: return Long.bitCount(sawA & sawB);
            default: return missed(sawA, sawB);
        }
    }

    public int together(int m, int n, int e, int from, int to, int what) {
        if (!tree.has(m) || !tree.has(n)) return UNKNOWN;
        if (!isKnownEdition(e) || !isWithin(what, 0, 4)) return OUTSIDE;
        if (!isYear(from) || !isYear(to) || to < from) return OUTSIDE;
        view.lookIn(e);
        long among = pictures.ofYears(from, to);
        long x = view.showing(m) & among;
        long y = view.showing(n) & among;
        switch (what) {
            case 0: return Long.bitCount(x);
            case 1: return Long.bitCount(y);
            case 2: return Long.bitCount(x & y);
            case 3: return Long.bitCount(among);
            default: return oneIf(isBeyondChance(x, y, Long.bitCount(among)));
        }
    }

    public int along(int m, int e, int i) {
        if (!tree.has(m)) return UNKNOWN;
        if (!isKnownEdition(e)) return OUTSIDE;
        view.lookIn(e);
        return pick(goingAlong(m, e), i);
    }

    public int likely(int m, int e, int i) {
        if (!tree.has(m)) return UNKNOWN;
        if (!isKnownEdition(e)) return OUTSIDE;
        view.lookIn(e);
        long marks = goingAlong(m, e);
        int found = 0;
        for (int score = Long.bitCount(marks); score > 0; score--) {
            for (int p = 0; p < pictures.size; p++) {
                if (view.shows(p, m) || Long.bitCount(view.shown[p] & marks) != score) continue;
                if (found == i) return p;
                found++;
            }
        }
        return i == NONE ? found : NONE;
    }

    // ---- copies, stories, splits

    public long lacking(int p, int e) {
        if (!pictures.has(p)) return UNKNOWN;
        if (!isKnownEdition(e)) return OUTSIDE;
        view.lookIn(e);
        long meant = 0;
        for (int g = 0; g < givings.size; g++) {
            int other = givings.picture[g];
            if (other == p || pictures.first[other] != pictures.first[p]) continue;
            if (view.meaning[g] != NONE) meant |= 1L << view.meaning[g];
        }
        return meant & ~view.shown[p];
    }

    public int story() {
        return stories.add();
    }

    public int moment(int s, int i, int m) {
        if (!stories.has(s) || !tree.has(m)) return UNKNOWN;
        if (!isWithin(i, 0, stories.moments[s])) return OUTSIDE;
        return stories.addMark(s, i, m);
    }

    public int of(int p, int s, int e, int what) {
        if (!pictures.has(p) || !stories.has(s)) return UNKNOWN;
        if (!isKnownEdition(e) || !isWithin(what, 0, 2)) return OUTSIDE;
        view.lookIn(e);
        int possible = 0;
        int first = NONE;
        for (int i = stories.moments[s] - 1; i >= 0; i--) {
            if ((stories.marks[s][i] & ~view.shown[p]) != 0) continue;
            possible++;
            first = i;
        }
        switch (what) {
            case 0: return possible;
            case 1: return first;
            default: return oneIf(possible == 1);
        }
    }

    public int split(int m, int e, int what) {
        if (!tree.has(m)) return UNKNOWN;
        if (!isKnownEdition(e) || !isWithin(what, 0, 1)) return OUTSIDE;
        view.lookIn(e);
        long shown = view.showing(m);
        int best = NONE;
        int least = NONE;
        for (int n = 0; n < tree.size; n++) {
            if (!isApart(n, m, e)) continue;
            int with = Long.bitCount(shown & view.showing(n));
            int greater = Math.max(with, Long.bitCount(shown) - with);
            if (best == NONE || greater < least) {
                best = n;
                least = greater;
            }
        }
        return what == 0 ? best : least;
    }

    // ---- what several calls share

    private static boolean isWithin(int x, int low, int high) {
        return x >= low && x <= high;
    }

    private static boolean isYear(int year) {
        return isWithin(year, 0, LAST_YEAR);
    }

    private static boolean isHand(int hand) {
        return isWithin(hand, 0, HANDS - 1);
    }

    private static boolean isWord(int t, int w) {
        return isWithin(t, 0, TONGUES - 1) && isWithin(w, 0, WORDS - 1);
    }

    private boolean isKnownEdition(int e) {
        return isWithin(e, 0, now);
    }

    private static int oneIf(boolean holds) {
        return holds ? 1 : 0;
    }

    /** The i-th number of a set; for i = NONE how many it has; NONE: there is none such. */
    private static int pick(long set, int i) {
        if (i == NONE) return Long.bitCount(set);
        int found = 0;
        for (int k = 0; k < MOST_BITS; k++) {
            if (((set >>> k) & 1) == 0) continue;
            if (found == i) return k;
            found++;
        }
        return NONE;
    }

    /** The text is used up by a reading, whether it had a fault or not. */
    private int afterReading(int number) {
        boolean good = text.fault == 0;
        faultAt = good ? NONE : text.faultAt;
        text.length = 0;
        return good ? number : -10 - text.fault;
    }

    private static int missed(long sawA, long sawB) {
        int both = Long.bitCount(sawA & sawB);
        if (both == 0) return NONE;
        return Long.bitCount(sawA & ~sawB) * Long.bitCount(sawB & ~sawA) / both;
    }

    private static boolean isBeyondChance(long x, long y, int n) {
        return Long.bitCount(x & y) * n > Long.bitCount(x) * Long.bitCount(y);
    }

    /** Whether n is there and neither of n and m is below the other. */
    private boolean isApart(int n, int m, int e) {
        return tree.isThere(n, e) && !tree.isBelow(n, m, e) && !tree.isBelow(m, n, e);
    }

    /** The view must look in e already. */
    private long goingAlong(int m, int e) {
        long x = view.showing(m);
        long set = 0;
        for (int n = 0; n < tree.size; n++) {
            if (!isApart(n, m, e)) continue;
            if (isBeyondChance(x, view.showing(n), pictures.size)) set |= 1L << n;
        }
        return set;
    }

    /** The view must look in e already. */
    private long metBy(int a, int e) {
        long[] stack = asks.stack;
        int top = 0;
        for (int i = 0; i < asks.lengths[a] && top < stack.length; i++) {
            int kind = asks.codes[a][i] / Asks.STEP;
            if (kind < Asks.FIRST_SIGN) {
                stack[top++] = metByOne(kind, asks.codes[a][i] % Asks.STEP, e);
            } else if (kind == Asks.NO && top >= 1) {
                stack[top - 1] = pictures.all() & ~stack[top - 1];
            } else if (top >= 2) {
                top--;
                long right = stack[top];
                stack[top - 1] = kind == Asks.AND ? stack[top - 1] & right : stack[top - 1] | right;
            }
        }
        return top == 1 ? stack[0] : 0;
    }

    private long metByOne(int kind, int number, int e) {
        switch (kind) {
            case Asks.MARK: return view.showing(number);
            case Asks.WORD: return view.showingAny(words.marksOf(number / WORDS, number % WORDS));
            case Asks.HAND: return givings.picturesOf(number, e);
            case Asks.BEFORE: return pictures.ofYears(0, number - 1);
            default: return pictures.atPlace(number);
        }
    }

    /** Marks, their parents in each edition, and how they ended. */
    private static final class Tree {
        final int[] told = new int[MOST_MARKS];
        final int[] ended = new int[MOST_MARKS];
        final int[] joined = new int[MOST_MARKS];
        final int[][] parents = new int[MOST_MARKS][EDITIONS];
        int size;

        Tree() {
            Arrays.fill(ended, NONE);
            Arrays.fill(joined, NONE);
            for (int m = 0; m < MOST_MARKS; m++) Arrays.fill(parents[m], NONE);
            size = 1;
        }

        boolean has(int m) {
            return m >= 0 && m < size;
        }

        int add(int parent, int e) {
            int m = size;
            if (m >= MOST_MARKS) return FULL;
            told[m] = e;
            size++;
            setParent(m, parent, e);
            return m;
        }

        /** Later editions are filled too, so that each edition starts as the one ahead of it ends. */
        void setParent(int m, int parent, int e) {
            if (!has(m)) return;
            for (int later = Math.max(0, e); later < EDITIONS; later++) parents[m][later] = parent;
        }

        int parentIn(int m, int e) {
            return has(m) && isWithin(e, 0, EDITIONS - 1) ? parents[m][e] : NONE;
        }

        boolean isEnded(int m, int e) {
            return has(m) && ended[m] != NONE && ended[m] <= e;
        }

        boolean isThere(int m, int e) {
            return has(m) && told[m] <= e && !isEnded(m, e);
        }

        /** The mark itself and all above it. */
        long pathUp(int m, int e) {
            long set = 0;
            int at = m;
            for (int step = 0; step < MOST_MARKS && has(at); step++) {
                set |= 1L << at;
                at = parentIn(at, e);
            }
            return set;
        }

        boolean isBelow(int n, int m, int e) {
            return has(m) && ((pathUp(n, e) >>> m) & 1) != 0;
        }

        int countBelow(int m, int e) {
            int n = 0;
            for (int k = 0; k < size; k++) if (isBelow(k, m, e)) n++;
            return n;
        }

        int countThere(int e) {
            int n = 0;
            for (int m = 0; m < size; m++) if (isThere(m, e)) n++;
            return n;
        }

        /** Where one comes from m by joins made by e. */
        int followJoins(int m, int e) {
            int at = m;
            for (int step = 0; step < MOST_MARKS && isEnded(at, e) && has(joined[at]); step++) {
                at = joined[at];
            }
            return at;
        }

        /** The mark itself, if it is there, or the first above it that is. */
        int firstThere(int m, int e) {
            int at = m;
            for (int step = 0; step < MOST_MARKS && has(at) && !isThere(at, e); step++) {
                at = parentIn(at, e);
            }
            return at;
        }

        int raised(int m, int times, int e) {
            int at = m;
            for (int step = 0; step < times && at != 0; step++) at = parentIn(at, e);
            return at;
        }
    }

    private static final class Pictures {
        final int[] year = new int[MOST_PICTURES];
        final int[] place = new int[MOST_PICTURES];
        /** Where one comes to by copies: it tells the family. */
        final int[] first = new int[MOST_PICTURES];
        int size;

        boolean has(int p) {
            return p >= 0 && p < size;
        }

        int add(int itsYear, int itsPlace, int copy) {
            int p = size;
            if (p >= MOST_PICTURES) return FULL;
            year[p] = itsYear;
            place[p] = itsPlace;
            first[p] = has(copy) ? first[copy] : p;
            size++;
            return p;
        }

        long all() {
            return (1L << size) - 1;
        }

        long ofYears(int from, int to) {
            long set = 0;
            for (int p = 0; p < size; p++) if (isWithin(year[p], from, to)) set |= 1L << p;
            return set;
        }

        long atPlace(int where) {
            long set = 0;
            for (int p = 0; p < size; p++) if (place[p] == where) set |= 1L << p;
            return set;
        }
    }

    private static final class Givings {
        final int[] picture = new int[MOST_GIVINGS];
        final int[] mark = new int[MOST_GIVINGS];
        final int[] hand = new int[MOST_GIVINGS];
        final int[] keys = new int[MOST_GIVINGS];
        final int[] edition = new int[MOST_GIVINGS];
        /** The edition in which a hand doubted a giving; NONE: it did not. */
        final int[][] doubted = new int[MOST_GIVINGS][HANDS];
        int size;

        boolean has(int g) {
            return g >= 0 && g < size;
        }

        int add(int p, int m, int itsHand, int itsKeys, int e) {
            int g = size;
            if (g >= MOST_GIVINGS) return FULL;
            picture[g] = p;
            mark[g] = m;
            hand[g] = itsHand;
            keys[g] = itsKeys;
            edition[g] = e;
            Arrays.fill(doubted[g], NONE);
            size++;
            return g;
        }

        int doubters(int g, int e) {
            if (!has(g)) return 0;
            int n = 0;
            for (int h = 0; h < HANDS; h++) {
                if (doubted[g][h] != NONE && doubted[g][h] <= e) n++;
            }
            return n;
        }

        /** Pictures that have a giving by a hand, told by e, whatever it means. */
        long picturesOf(int itsHand, int e) {
            long set = 0;
            for (int g = 0; g < size; g++) {
                if (hand[g] == itsHand && edition[g] <= e) set |= 1L << picture[g];
            }
            return set;
        }
    }

    /**
     * The text, and its reading token by token. The first fault stands; what is taken after it
     * changes nothing, so that a reader may look for it once at the end of a clause.
     */
    private static final class Text {
        static final int END = 0, LETTERS = 1, FIGURES = 2, SIGN = 3;
        static final int MISPLACED = 1, BAD_NUMBER = 2, NO_SUCH_RULE = 3, NINTH_CLAUSE = 4, SIXTH_BRACKET = 5;

        final int[] bytes = new int[TEXT_BYTES];
        int length;
        int kind;
        int start;
        int stop;
        int fault;
        int faultAt;

        void add(int b) {
            if (length >= TEXT_BYTES) return;
            bytes[length] = b;
            length++;
        }

        void startReading() {
            fault = 0;
            faultAt = NONE;
            stop = 0;
            advance();
        }

        private int byteAt(int i) {
            return i >= 0 && i < length ? bytes[i] : NONE;
        }

        private static int kindOf(int b) {
            if (b == NONE) return END;
            if (b >= 'a' && b <= 'z') return LETTERS;
            if (b >= '0' && b <= '9') return FIGURES;
            return SIGN;
        }

        void advance() {
            start = stop;
            while (start < length && byteAt(start) == ' ') start++;
            kind = kindOf(byteAt(start));
            stop = start;
            if (kind == END) return;
            stop++;
            if (kind == SIGN) return;
            while (stop < length && kindOf(byteAt(stop)) == kind) stop++;
        }

        void fail(int why, int at) {
            if (fault != 0) return;
            fault = why;
            faultAt = at;
        }

        boolean isWord(String word) {
            if (kind != LETTERS || stop - start != word.length()) return false;
            for (int i = 0; i < word.length(); i++) {
                if (byteAt(start + i) != word.charAt(i)) return false;
            }
            return true;
        }

        boolean isSign(char sign) {
            return kind == SIGN && byteAt(start) == sign;
        }

        void takeWord(String word) {
            if (!isWord(word)) fail(MISPLACED, start);
            if (fault == 0) advance();
        }

        void takeSign(char sign) {
            if (!isSign(sign)) fail(MISPLACED, start);
            if (fault == 0) advance();
        }

        int takeNumber(int low, int high, int mostFigures) {
            if (kind != FIGURES) fail(MISPLACED, start);
            if (stop - start > mostFigures) fail(BAD_NUMBER, start);
            if (fault != 0) return NONE;
            int value = 0;
            for (int i = start; i < stop; i++) value = 10 * value + byteAt(i) - '0';
            if (!isWithin(value, low, high)) fail(BAD_NUMBER, start);
            if (fault != 0) return NONE;
            advance();
            return value;
        }
    }

    /** Rules as rows of clauses, each a kind and up to two numbers. */
    private static final class Rules {
        static final int KEY = 1, ALLOW = 2, BAR = 3, NEED = 4, MOST = 5, STRIKE = 6;
        static final int MOST_MOST = 20;
        private static final int FIGURES = 2;
        private static final int LAST_OF_TWO_FIGURES = 99;

        final int[] edition = new int[MOST_RULES];
        final int[] clauses = new int[MOST_RULES];
        final int[][] kind = new int[MOST_RULES][MOST_CLAUSES];
        final int[][] first = new int[MOST_RULES][MOST_CLAUSES];
        final int[][] second = new int[MOST_RULES][MOST_CLAUSES];
        int size;

        /** The row of the next rule is written at once; without a fault it counts from then on. */
        void read(Text text, int e) {
            text.startReading();
            if (size >= MOST_RULES) return;
            int n = 0;
            while (n <= MOST_CLAUSES && text.fault == 0 && text.kind != Text.END) {
                readClause(text, n);
                n++;
            }
            if (text.fault != 0) return;
            edition[size] = e;
            clauses[size] = n;
            size++;
        }

        private static int clauseKind(Text text) {
            if (text.isWord("key")) return KEY;
            if (text.isWord("allow")) return ALLOW;
            if (text.isWord("bar")) return BAR;
            if (text.isWord("need")) return NEED;
            if (text.isWord("most")) return MOST;
            if (text.isWord("strike")) return STRIKE;
            return NONE;
        }

        private void readClause(Text text, int n) {
            int itsKind = clauseKind(text);
            if (itsKind == NONE) text.fail(Text.MISPLACED, text.start);
            if (n >= MOST_CLAUSES) text.fail(Text.NINTH_CLAUSE, text.start);
            if (text.fault != 0) return;
            text.advance();
            int at = text.start;
            kind[size][n] = itsKind;
            first[size][n] = readFirst(text, itsKind);
            if (itsKind == STRIKE && first[size][n] >= size) text.fail(Text.NO_SUCH_RULE, at);
            second[size][n] = readSecond(text, itsKind);
            text.takeSign(';');
        }

        private static int readFirst(Text text, int itsKind) {
            switch (itsKind) {
                case NEED: return text.takeNumber(0, MOST_MARKS - 1, FIGURES);
                case MOST: return text.takeNumber(1, MOST_MOST, FIGURES);
                case STRIKE: return text.takeNumber(0, LAST_OF_TWO_FIGURES, FIGURES);
                default: return text.takeNumber(0, KEYS - 1, FIGURES);
            }
        }

        private static int readSecond(Text text, int itsKind) {
            switch (itsKind) {
                case KEY: return readSense(text);
                case ALLOW:
                    text.takeWord("under");
                    return text.takeNumber(0, MOST_MARKS - 1, FIGURES);
                case BAR:
                    text.takeWord("with");
                    return text.takeNumber(0, KEYS - 1, FIGURES);
                case NEED:
                    text.takeWord("with");
                    return text.takeNumber(0, MOST_MARKS - 1, FIGURES);
                default: return NONE;
            }
        }

        private static int readSense(Text text) {
            int sense = NONE;
            if (text.isWord("keeps")) sense = KEEPS;
            if (text.isWord("turns")) sense = TURNS;
            if (text.isWord("raises")) sense = RAISES;
            if (sense == NONE) text.fail(Text.MISPLACED, text.start);
            if (text.fault == 0) text.advance();
            return sense;
        }

        /** The set of rules that count in an edition: a later one is looked at first, as it may strike. */
        int counting(int e) {
            int counting = 0;
            int struck = 0;
            for (int r = size - 1; r >= 0; r--) {
                if (edition[r] > e || ((struck >>> r) & 1) != 0) continue;
                counting |= 1 << r;
                for (int n = 0; n < clauses[r]; n++) {
                    if (kind[r][n] == STRIKE) struck |= 1 << first[r][n];
                }
            }
            return counting;
        }
    }

    /** What the rules of one edition come to. */
    private static final class Force {
        int most;
        final int[] senses = new int[KEYS];
        /** For each key the set of marks under which it is allowed; none: everywhere. */
        final long[] allowed = new long[KEYS];
        /** For each key the set of other keys that clauses which name it first bar with it. */
        final int[] barred = new int[KEYS];
        /** For each mark the set of marks that it needs. */
        final long[] needed = new long[MOST_MARKS];
        int allows;
        int bars;
        int needs;

        private void clear() {
            most = Rules.MOST_MOST;
            Arrays.fill(senses, KEEPS);
            Arrays.fill(allowed, 0L);
            Arrays.fill(barred, 0);
            Arrays.fill(needed, 0L);
            allows = 0;
            bars = 0;
            needs = 0;
        }

        void setTo(Rules rules, int e) {
            clear();
            int counting = rules.counting(e);
            for (int from = 0; from <= e && from < EDITIONS; from++) {
                for (int r = 0; r < rules.size; r++) {
                    if (rules.edition[r] == from && ((counting >>> r) & 1) != 0) apply(rules, r);
                }
            }
        }

        private void apply(Rules rules, int r) {
            for (int n = 0; n < rules.clauses[r]; n++) {
                applyClause(rules.kind[r][n], rules.first[r][n], rules.second[r][n]);
            }
        }

        private void applyClause(int kind, int first, int second) {
            switch (kind) {
                case Rules.KEY:
                    senses[first] = second;
                    break;
                case Rules.ALLOW:
                    allowed[first] |= 1L << second;
                    allows++;
                    break;
                case Rules.BAR:
                    // A key named twice bars nothing: what is barred are two keys of a giving.
                    if (first != second) barred[first] |= 1 << second;
                    bars++;
                    break;
                case Rules.NEED:
                    needed[first] |= 1L << second;
                    needs++;
                    break;
                case Rules.MOST:
                    most = first;
                    break;
                default:
                    break;
            }
        }

        private static boolean hasKey(int keys, int k) {
            return ((keys >>> k) & 1) != 0;
        }

        /** Whether a key may not stand at a mark with that path up. */
        boolean disallows(int keys, long path) {
            for (int k = 0; k < KEYS; k++) {
                if (hasKey(keys, k) && allowed[k] != 0 && (allowed[k] & path) == 0) return true;
            }
            return false;
        }

        boolean barsTwo(int keys) {
            for (int k = 0; k < KEYS; k++) {
                if (hasKey(keys, k) && (barred[k] & keys) != 0) return true;
            }
            return false;
        }

        int countSense(int keys, int sense) {
            int n = 0;
            for (int k = 0; k < KEYS; k++) if (hasKey(keys, k) && senses[k] == sense) n++;
            return n;
        }
    }

    /**
     * What givings mean and pictures show in the edition last looked in. It is kept until the tree,
     * givings, doubts or rules change: what comes later may change an earlier edition too.
     */
    private static final class View {
        private final Tree tree;
        private final Givings givings;
        private final Rules rules;
        /** The rules of the edition of the giving that is judged. */
        private final Force own = new Force();
        /** For each picture how many givings of it so far are not wrong. */
        private final int[] right = new int[MOST_PICTURES];
        private final boolean[] turns = new boolean[MOST_GIVINGS];
        private final int[] raises = new int[MOST_GIVINGS];
        final int[] wrong = new int[MOST_GIVINGS];
        final int[] meaning = new int[MOST_GIVINGS];
        final boolean[] needsLook = new boolean[MOST_GIVINGS];
        /** For each picture the set of marks that it shows. */
        final long[] shown = new long[MOST_PICTURES];
        private boolean judged;
        private int looksIn;

        View(Tree itsTree, Givings itsGivings, Rules itsRules) {
            tree = itsTree;
            givings = itsGivings;
            rules = itsRules;
            judged = false;
            looksIn = NONE;
        }

        void forget() {
            judged = false;
            looksIn = NONE;
        }

        void judge() {
            if (judged) return;
            judged = true;
            Arrays.fill(right, 0);
            int judgedBy = NONE;
            for (int g = 0; g < givings.size; g++) {
                int e = givings.edition[g];
                if (e != judgedBy) own.setTo(rules, e);
                judgedBy = e;
                wrong[g] = whyWrong(g, e);
                int keys = givings.keys[g];
                turns[g] = keys != 0 && own.countSense(keys, TURNS) > 0;
                raises[g] = keys == 0 ? 0 : own.countSense(keys, RAISES);
                if (wrong[g] == 0) right[givings.picture[g]]++;
            }
        }

        private int whyWrong(int g, int e) {
            int m = givings.mark[g];
            int keys = givings.keys[g];
            if (!tree.isThere(m, e)) return 1;
            if (keys != 0 && own.disallows(keys, tree.pathUp(m, e))) return 2;
            if (keys != 0 && own.barsTwo(keys)) return 3;
            if (right[givings.picture[g]] >= own.most) return 4;
            return 0;
        }

        void lookIn(int e) {
            if (looksIn == e) return;
            looksIn = e;
            judge();
            Arrays.fill(shown, 0L);
            for (int g = 0; g < givings.size; g++) {
                setMeaning(g);
                if (meaning[g] != NONE) shown[givings.picture[g]] |= tree.pathUp(meaning[g], e);
            }
        }

        private void setMeaning(int g) {
            int e = looksIn;
            meaning[g] = NONE;
            needsLook[g] = false;
            if (givings.edition[g] > e || wrong[g] != 0 || turns[g]) return;
            if (givings.doubters(g, e) > 1) return;
            int m = tree.followJoins(givings.mark[g], e);
            needsLook[g] = tree.isEnded(m, e);
            meaning[g] = tree.raised(tree.firstThere(m, e), raises[g], e);
        }

        boolean shows(int p, int m) {
            return ((shown[p] >>> m) & 1) != 0;
        }

        long showing(int m) {
            return showingAny(1L << m);
        }

        long showingAny(long marks) {
            long set = 0;
            for (int p = 0; p < MOST_PICTURES; p++) if ((shown[p] & marks) != 0) set |= 1L << p;
            return set;
        }

        boolean meansBelow(int g, int m) {
            return meaning[g] != NONE && tree.isBelow(meaning[g], m, looksIn);
        }

        long seenBy(int hand, int m) {
            long set = 0;
            for (int g = 0; g < givings.size; g++) {
                if (givings.hand[g] == hand && meansBelow(g, m)) set |= 1L << givings.picture[g];
            }
            return set;
        }

        boolean isLacking(int g, Force asked) {
            if (givings.edition[g] > looksIn || wrong[g] != 0) return false;
            long path = tree.pathUp(givings.mark[g], looksIn);
            for (int m = 0; m < MOST_MARKS; m++) {
                if (((path >>> m) & 1) == 0) continue;
                if ((asked.needed[m] & ~shown[givings.picture[g]]) != 0) return true;
            }
            return false;
        }

        int countWrong() {
            int n = 0;
            for (int g = 0; g < givings.size; g++) if (wrong[g] != 0) n++;
            return n;
        }

        int countNeedingLook() {
            int n = 0;
            for (int g = 0; g < givings.size; g++) if (needsLook[g]) n++;
            return n;
        }

        int countLacking(Force asked) {
            int n = 0;
            for (int g = 0; g < givings.size; g++) if (isLacking(g, asked)) n++;
            return n;
        }
    }

    private static final class Words {
        final int[] tongue = new int[MOST_WORDS];
        final int[] number = new int[MOST_WORDS];
        final int[] mark = new int[MOST_WORDS];
        int size;

        /** To how many marks the word leads then. */
        int add(int t, int w, int m) {
            if (size >= MOST_WORDS) return FULL;
            tongue[size] = t;
            number[size] = w;
            mark[size] = m;
            size++;
            return Long.bitCount(marksOf(t, w));
        }

        long marksOf(int t, int w) {
            long set = 0;
            for (int i = 0; i < size; i++) {
                if (tongue[i] == t && number[i] == w) set |= 1L << mark[i];
            }
            return set;
        }
    }

    /** Asks as rows of codes, what is joined ahead of what joins it. */
    private static final class Asks {
        static final int MARK = 1, WORD = 2, HAND = 3, BEFORE = 4, AT = 5;
        /** In the order in which they bind, the loosest first; a bracket binds nothing. */
        static final int OPEN = 6, OR = 7, AND = 8, NO = 9;
        static final int FIRST_SIGN = OPEN;
        /** A code is its kind times this, and a number. */
        static final int STEP = 1000;
        private static final int FIGURES = 3;

        final int[] lengths = new int[MOST_ASKS];
        final int[][] codes = new int[MOST_ASKS][ASK_BYTES];
        /** A row for the one who works an ask out. */
        final long[] stack = new long[ASK_BYTES];
        private final int[] waiting = new int[ASK_BYTES];
        private int waits;
        private int brackets;
        int size;

        boolean has(int a) {
            return a >= 0 && a < size;
        }

        /** The row of the next ask is written at once; without a fault it counts from then on. */
        void read(Text text) {
            text.startReading();
            if (size >= MOST_ASKS) return;
            lengths[size] = 0;
            waits = 0;
            brackets = 0;
            boolean more = true;
            for (int step = 0; more && step < ASK_BYTES; step++) {
                readUpToOne(text);
                readOne(text);
                more = readUpToJoin(text);
            }
            if (text.fault != 0) return;
            releaseDownTo(OR);
            size++;
        }

        private void readUpToOne(Text text) {
            for (int step = 0; step < ASK_BYTES && text.fault == 0; step++) {
                if (text.isSign('(')) openBracket(text);
                else if (text.isWord("not")) hold(NO);
                else return;
                text.advance();
            }
        }

        private void openBracket(Text text) {
            if (brackets >= MOST_BRACKETS) text.fail(Text.SIXTH_BRACKET, text.start);
            brackets++;
            hold(OPEN);
        }

        private void readOne(Text text) {
            if (text.fault != 0) return;
            int kind = oneKind(text);
            if (kind == NONE) text.fail(Text.MISPLACED, text.start);
            else text.advance();
            int number = readNumber(text, kind);
            if (text.fault == 0) emit(kind * STEP + number);
        }

        private static int oneKind(Text text) {
            if (text.isWord("mark")) return MARK;
            if (text.isWord("word")) return WORD;
            if (text.isWord("hand")) return HAND;
            if (text.isWord("before")) return BEFORE;
            if (text.isWord("at")) return AT;
            return NONE;
        }

        private static int readNumber(Text text, int kind) {
            switch (kind) {
                case MARK: return text.takeNumber(0, MOST_MARKS - 1, FIGURES);
                case WORD: return WORDS * text.takeNumber(0, TONGUES - 1, FIGURES)
                        + text.takeNumber(0, WORDS - 1, FIGURES);
                case HAND: return text.takeNumber(0, HANDS - 1, FIGURES);
                case BEFORE: return text.takeNumber(0, LAST_YEAR, FIGURES);
                case AT: return text.takeNumber(0, PLACES - 1, FIGURES);
                default: return NONE;
            }
        }

        /** Closing brackets, then a word that joins: whether there was one, so that a one must follow. */
        private boolean readUpToJoin(Text text) {
            for (int step = 0; step <= MOST_BRACKETS && text.fault == 0; step++) {
                if (!text.isSign(')') || brackets == 0) break;
                closeBracket();
                text.advance();
            }
            if (text.fault != 0) return false;
            if (text.kind == Text.END && brackets == 0) return false;
            if (text.isWord("and")) joinBy(AND);
            else if (text.isWord("or")) joinBy(OR);
            else text.fail(Text.MISPLACED, text.start);
            if (text.fault != 0) return false;
            text.advance();
            return true;
        }

        private void closeBracket() {
            releaseDownTo(OR);
            if (waits > 0) waits--;
            brackets--;
        }

        private void joinBy(int sign) {
            releaseDownTo(sign);
            hold(sign);
        }

        private void hold(int sign) {
            if (waits >= waiting.length) return;
            waiting[waits] = sign;
            waits++;
        }

        /** Signs that wait and bind at least as close as this one take their place in the row. */
        private void releaseDownTo(int sign) {
            while (waits > 0 && waiting[waits - 1] >= sign) {
                waits--;
                emit(waiting[waits] * STEP);
            }
        }

        private void emit(int code) {
            if (size >= MOST_ASKS || lengths[size] >= ASK_BYTES) return;
            codes[size][lengths[size]] = code;
            lengths[size]++;
        }
    }

    private static final class Stories {
        final int[] moments = new int[MOST_STORIES];
        /** How many marks were told of a moment; one told twice counts twice. */
        final int[][] sizes = new int[MOST_STORIES][MOST_MOMENTS];
        final long[][] marks = new long[MOST_STORIES][MOST_MOMENTS];
        int size;

        boolean has(int s) {
            return s >= 0 && s < size;
        }

        int add() {
            if (size >= MOST_STORIES) return FULL;
            size++;
            return size - 1;
        }

        int addMark(int s, int i, int m) {
            if (i >= MOST_MOMENTS || sizes[s][i] >= MOMENT_MARKS) return FULL;
            if (i == moments[s]) moments[s]++;
            marks[s][i] |= 1L << m;
            sizes[s][i]++;
            return sizes[s][i];
        }
    }
}
