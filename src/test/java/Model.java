import java.util.ArrayList;
import java.util.HashSet;
import java.util.List;
import java.util.Set;
import java.util.TreeSet;
import java.util.function.IntPredicate;

/**
 * The document again, word by word and without any care for speed, for ModelTest to hold the class
 * against. It keeps what was told as lists and works every answer out of them anew.
 */
final class Model {
    static final int NONE = -1, UNKNOWN = -1001, OUTSIDE = -1002, NOT = -1003, FULL = -1004;

    private record Move(int mark, int parent, int edition) { }
    private record End(int mark, int to, int edition) { }
    private record Picture(int year, int place, int copy) { }
    private record Giving(int picture, int mark, int hand, Set<Integer> keys, int edition) { }
    private record Doubt(int giving, int hand, int edition) { }
    private record Clause(String word, int first, int second) { }
    private record Rule(int edition, List<Clause> clauses) { }
    private record Word(int tongue, int number, int mark) { }

    /** An ask as a test of a picture; it is made anew for each edition. */
    private interface Ask {
        boolean meets(int p, int e);
    }

    private static final class Fault extends Exception {
        final int number, at;
        Fault(int number, int at) {
            this.number = number;
            this.at = at;
        }
    }

    private int now = 0;
    /** A mark is told by its first move. */
    private final List<Move> tellings = new ArrayList<>();
    private final List<Move> moves = new ArrayList<>();
    private final List<End> ends = new ArrayList<>();
    private final List<Picture> pictures = new ArrayList<>();
    private final List<Giving> givings = new ArrayList<>();
    private final List<Doubt> doubts = new ArrayList<>();
    private final List<Rule> rules = new ArrayList<>();
    private final List<Word> words = new ArrayList<>();
    private final List<Ask> asks = new ArrayList<>();
    private final List<List<List<Integer>>> stories = new ArrayList<>();
    private String text = "";
    private int faultAt = NONE;

    Model() {
        tellings.add(new Move(0, NONE, 0));
    }

    // ---- terms of the tree

    private boolean isMark(int m) {
        return m >= 0 && m < tellings.size();
    }

    private boolean isEdition(int e) {
        return e >= 0 && e <= now;
    }

    private End endOf(int m) {
        for (End end : ends) if (end.mark == m) return end;
        return null;
    }

    private boolean endedBy(int m, int e) {
        return endOf(m) != null && endOf(m).edition <= e;
    }

    private boolean toldBy(int m, int e) {
        return tellings.get(m).edition <= e;
    }

    private boolean there(int m, int e) {
        return toldBy(m, e) && !endedBy(m, e);
    }

    private int parent(int m, int e) {
        if (m == 0 || !toldBy(m, e)) return NONE;
        int parent = tellings.get(m).parent;
        for (Move move : moves) if (move.mark == m && move.edition <= e) parent = move.parent;
        return parent;
    }

    private boolean isBelow(int n, int m, int e) {
        if (n == m) return true;
        return toldBy(n, e) && parent(n, e) != NONE && isBelow(parent(n, e), m, e);
    }

    private int countBelow(int m, int e) {
        int n = 0;
        for (int k = 0; k < tellings.size(); k++) if (isBelow(k, m, e)) n++;
        return n;
    }

    // ---- terms of rules

    private List<Clause> clausesIn(int e) {
        Set<Integer> counting = new HashSet<>();
        for (int r = rules.size() - 1; r >= 0; r--) {
            if (rules.get(r).edition > e) continue;
            boolean struck = false;
            for (int by : counting) {
                for (Clause c : rules.get(by).clauses) if (c.word.equals("strike") && c.first == r) struck = true;
            }
            if (!struck) counting.add(r);
        }
        List<Integer> order = new ArrayList<>(new TreeSet<>(counting));
        order.sort((a, b) -> Integer.compare(rules.get(a).edition, rules.get(b).edition));
        List<Clause> all = new ArrayList<>();
        for (int r : order) all.addAll(rules.get(r).clauses);
        return all;
    }

    private List<Clause> clausesIn(int e, String word) {
        List<Clause> some = new ArrayList<>();
        for (Clause c : clausesIn(e)) if (c.word.equals(word)) some.add(c);
        return some;
    }

    private int most(int e) {
        int most = 20;
        for (Clause c : clausesIn(e, "most")) most = c.first;
        return most;
    }

    private int sense(int k, int e) {
        int sense = 0;
        for (Clause c : clausesIn(e, "key")) if (c.first == k) sense = c.second;
        return sense;
    }

    // ---- terms of givings

    private int wrong(int g) {
        Giving it = givings.get(g);
        int e = it.edition;
        if (!there(it.mark, e)) return 1;
        List<Clause> clauses = clausesIn(e);
        for (int k : it.keys) {
            boolean any = false, under = false;
            for (Clause c : clauses) {
                if (!c.word.equals("allow") || c.first != k) continue;
                any = true;
                if (isMark(c.second) && isBelow(it.mark, c.second, e)) under = true;
            }
            if (any && !under) return 2;
        }
        for (Clause c : clauses) {
            if (!c.word.equals("bar") || c.first == c.second) continue;
            if (it.keys.contains(c.first) && it.keys.contains(c.second)) return 3;
        }
        int ahead = 0;
        for (int h = 0; h < g; h++) if (givings.get(h).picture == it.picture && wrongs()[h] == 0) ahead++;
        return ahead >= most(e) ? 4 : 0;
    }

    /** What is worked out is kept until something changes, or the test would take for ever. */
    private int[] wrongs;

    private int[] wrongs() {
        if (wrongs != null) return wrongs;
        wrongs = new int[givings.size()];
        for (int g = 0; g < wrongs.length; g++) wrongs[g] = wrong(g);
        return wrongs;
    }

    private void changed() {
        wrongs = null;
        meanings.clear();
    }

    private final java.util.Map<Integer, int[]> meanings = new java.util.HashMap<>();

    private int doubters(int g, int e) {
        int n = 0;
        for (Doubt d : doubts) if (d.giving == g && d.edition <= e) n++;
        return n;
    }

    /** The mark; above 99 it needs a look. */
    private int meaning(int g, int e) {
        Giving it = givings.get(g);
        if (it.edition > e || wrongs()[g] != 0 || doubters(g, e) > 1) return NONE;
        int raises = 0;
        for (int k : it.keys) {
            if (sense(k, it.edition) == 1) return NONE;
            if (sense(k, it.edition) == 2) raises++;
        }
        int m = it.mark;
        while (endedBy(m, e) && endOf(m).to != NONE) m = endOf(m).to;
        int look = endedBy(m, e) ? 100 : 0;
        while (!there(m, e)) m = parent(m, e);
        for (int i = 0; i < raises; i++) m = m == 0 ? 0 : parent(m, e);
        return m + look;
    }

    private int[] meaningsIn(int e) {
        if (meanings.containsKey(e)) return meanings.get(e);
        int[] all = new int[givings.size()];
        for (int g = 0; g < all.length; g++) all[g] = meaning(g, e);
        meanings.put(e, all);
        return all;
    }

    private int meant(int g, int e) {
        int m = meaningsIn(e)[g];
        return m >= 100 ? m - 100 : m;
    }

    private boolean needsLook(int g, int e) {
        return meaningsIn(e)[g] >= 100;
    }

    private boolean meansBelow(int g, int m, int e) {
        return meant(g, e) != NONE && isMark(m) && isBelow(meant(g, e), m, e);
    }

    private int ledBy(int p, int m, int e) {
        for (int g = 0; g < givings.size(); g++) if (givings.get(g).picture == p && meansBelow(g, m, e)) return g;
        return NONE;
    }

    private boolean shows(int p, int m, int e) {
        return ledBy(p, m, e) != NONE;
    }

    private boolean lacks(int g, int e) {
        Giving it = givings.get(g);
        if (it.edition > e || wrongs()[g] != 0) return false;
        for (Clause c : clausesIn(e, "need")) {
            if (!isMark(c.first) || !isBelow(it.mark, c.first, e)) continue;
            if (!shows(it.picture, c.second, e)) return true;
        }
        return false;
    }

    private int countGivings(IntPredicate which) {
        int n = 0;
        for (int g = 0; g < givings.size(); g++) if (which.test(g)) n++;
        return n;
    }

    // ---- the tree

    int edition() {
        if (now == 9) return NOT;
        return ++now;
    }

    int mark(int parent) {
        if (!isMark(parent)) return UNKNOWN;
        if (!there(parent, now)) return NOT;
        if (tellings.size() == 40) return FULL;
        tellings.add(new Move(tellings.size(), parent, now));
        changed();
        return tellings.size() - 1;
    }

    int move(int m, int parent) {
        if (!isMark(m) || !isMark(parent)) return UNKNOWN;
        if (m == 0 || !there(m, now) || !there(parent, now) || isBelow(parent, m, now)) return NOT;
        int was = parent(m, now);
        moves.add(new Move(m, parent, now));
        changed();
        return was;
    }

    int end(int m, int to) {
        if (!isMark(m) || to != NONE && !isMark(to)) return UNKNOWN;
        if (m == 0 || !there(m, now) || to != NONE && !there(to, now) || m == to) return NOT;
        ends.add(new End(m, to, now));
        changed();
        return countBelow(m, now) - 1;
    }

    int tree(int m, int e, int what) {
        if (!isMark(m)) return UNKNOWN;
        if (!isEdition(e) || what < 0 || what > 6) return OUTSIDE;
        if (what == 0) return there(m, e) ? 1 : 0;
        if (what == 1) return parent(m, e);
        if (what == 2) return countBelow(m, e);
        if (what == 3) return endOf(m) == null ? NONE : endOf(m).to;
        if (what == 4) return tellings.get(m).edition;
        if (what == 5) return endOf(m) == null ? NONE : endOf(m).edition;
        return among(p -> shows(p, m, e)).size();
    }

    int below(int n, int m, int e) {
        if (!isMark(n) || !isMark(m)) return UNKNOWN;
        if (!isEdition(e)) return OUTSIDE;
        return isBelow(n, m, e) ? 1 : 0;
    }

    // ---- pictures, givings

    private boolean isPicture(int p) {
        return p >= 0 && p < pictures.size();
    }

    private List<Integer> among(IntPredicate which) {
        List<Integer> some = new ArrayList<>();
        for (int p = 0; p < pictures.size(); p++) if (which.test(p)) some.add(p);
        return some;
    }

    int picture(int year, int place, int copy) {
        if (copy != NONE && !isPicture(copy)) return UNKNOWN;
        if (year < 0 || year > 999 || place < 0 || place > 9) return OUTSIDE;
        if (pictures.size() == 40) return FULL;
        pictures.add(new Picture(year, place, copy));
        return pictures.size() - 1;
    }

    int give(int p, int m, int hand, int keys) {
        if (!isPicture(p) || !isMark(m)) return UNKNOWN;
        if (hand < 0 || hand > 7 || keys < 0 || keys > 63) return OUTSIDE;
        if (givings.size() == 120) return FULL;
        Set<Integer> set = new TreeSet<>();
        for (int k = 0; k < 6; k++) if ((keys & 1 << k) != 0) set.add(k);
        givings.add(new Giving(p, m, hand, set, now));
        changed();
        return givings.size() - 1;
    }

    private boolean isGiving(int g) {
        return g >= 0 && g < givings.size();
    }

    int doubt(int g, int hand) {
        if (!isGiving(g)) return UNKNOWN;
        if (hand < 0 || hand > 7) return OUTSIDE;
        if (givings.get(g).hand == hand) return NOT;
        for (Doubt d : doubts) if (d.giving == g && d.hand == hand) return NOT;
        doubts.add(new Doubt(g, hand, now));
        changed();
        return doubters(g, now);
    }

    int told(int g, int what) {
        if (!isGiving(g)) return UNKNOWN;
        if (what < 0 || what > 6) return OUTSIDE;
        Giving it = givings.get(g);
        int keys = 0;
        for (int k : it.keys) keys += 1 << k;
        return new int[] {it.picture, it.mark, it.hand, keys, it.edition, wrongs()[g], doubters(g, 9)}[what];
    }

    int means(int g, int e, int what) {
        if (!isGiving(g)) return UNKNOWN;
        if (!isEdition(e) || what < 0 || what > 2) return OUTSIDE;
        if (givings.get(g).edition > e) return NOT;
        if (what == 0) return meant(g, e);
        if (what == 1) return needsLook(g, e) ? 1 : 0;
        return lacks(g, e) ? 1 : 0;
    }

    int led(int p, int m, int e) {
        if (!isPicture(p) || !isMark(m)) return UNKNOWN;
        if (!isEdition(e)) return OUTSIDE;
        return ledBy(p, m, e);
    }

    int count(int what) {
        switch (what) {
            case 0: return now;
            case 1: return tellings.size();
            case 2: return tellings.size() - ends.size();
            case 3: return pictures.size();
            case 4: return givings.size();
            case 5: return countGivings(g -> wrongs()[g] != 0);
            case 6: return countGivings(g -> needsLook(g, now));
            case 7: return countGivings(g -> lacks(g, now));
            case 8: return rules.size();
            case 9: return text.length();
            case 10: return words.size();
            case 11: return asks.size();
            case 12: return stories.size();
            default: return OUTSIDE;
        }
    }

    // ---- rules

    int feed(int n, long bytes) {
        if (n < 1 || n > 8) return OUTSIDE;
        if (text.length() + n > 160) return FULL;
        StringBuilder more = new StringBuilder();
        for (int k = 0; k < n; k++) more.insert(0, (char) (bytes >> 8 * k & 255));
        text += more;
        return text.length();
    }

    int rule(int e) {
        if (e < 0 || e > 9) return OUTSIDE;
        if (rules.size() == 8) return FULL;
        try {
            rules.add(new Rule(e, new RuleReader().all()));
            faultAt = NONE;
            changed();
            return rules.size() - 1;
        } catch (Fault f) {
            faultAt = f.at;
            return -10 - f.number;
        } finally {
            text = "";
        }
    }

    int fault() {
        return faultAt;
    }

    int force(int e, int what) {
        if (e < 0 || e > 9 || what < 0 || what > 9) return OUTSIDE;
        if (what == 0) return most(e);
        if (what <= 6) return sense(what - 1, e);
        return clausesIn(e, what == 7 ? "allow" : what == 8 ? "bar" : "need").size();
    }

    /** Reads by descent, straight from the text; a fault is thrown. */
    private class Reader {
        int at = 0;

        void skip() {
            while (at < text.length() && text.charAt(at) == ' ') at++;
        }

        boolean atEnd() {
            skip();
            return at == text.length();
        }

        String word() {
            skip();
            int stop = at;
            while (stop < text.length() && text.charAt(stop) >= 'a' && text.charAt(stop) <= 'z') stop++;
            return text.substring(at, stop);
        }

        boolean take(String word) {
            if (!word().equals(word)) return false;
            at += word.length();
            return true;
        }

        boolean takeSign(char sign) {
            if (atEnd() || text.charAt(at) != sign) return false;
            at++;
            return true;
        }

        void want(boolean taken) throws Fault {
            if (!taken) throw new Fault(1, at);
        }

        int number(int figures, int low, int high) throws Fault {
            skip();
            int stop = at;
            while (stop < text.length() && text.charAt(stop) >= '0' && text.charAt(stop) <= '9') stop++;
            if (stop == at) throw new Fault(1, at);
            if (stop - at > figures) throw new Fault(2, at);
            int value = Integer.parseInt(text.substring(at, stop));
            if (value < low || value > high) throw new Fault(2, at);
            at = stop;
            return value;
        }
    }

    private final class RuleReader extends Reader {
        List<Clause> all() throws Fault {
            List<Clause> clauses = new ArrayList<>();
            while (!atEnd()) {
                if (!List.of("key", "allow", "bar", "need", "most", "strike").contains(word())) throw new Fault(1, at);
                if (clauses.size() == 8) throw new Fault(4, at);
                clauses.add(clause());
                want(takeSign(';'));
            }
            return clauses;
        }

        private Clause clause() throws Fault {
            String word = word();
            take(word);
            if (word.equals("most")) return new Clause(word, number(2, 1, 20), 0);
            if (word.equals("strike")) {
                skip();
                int start = at;
                int r = number(2, 0, 99);
                if (r >= rules.size()) throw new Fault(3, start);
                return new Clause(word, r, 0);
            }
            int first = number(2, 0, word.equals("need") ? 39 : 5);
            if (word.equals("key")) return new Clause(word, first, senseWord());
            want(take(word.equals("allow") ? "under" : "with"));
            return new Clause(word, first, number(2, 0, word.equals("bar") ? 5 : 39));
        }

        private int senseWord() throws Fault {
            if (take("keeps")) return 0;
            if (take("turns")) return 1;
            want(take("raises"));
            return 2;
        }
    }

    private final class AskReader extends Reader {
        private int open = 0;

        Ask whole() throws Fault {
            Ask ask = sum();
            want(atEnd());
            return ask;
        }

        private Ask sum() throws Fault {
            Ask left = product();
            while (take("or")) {
                Ask a = left, b = product();
                left = (p, e) -> a.meets(p, e) || b.meets(p, e);
            }
            return left;
        }

        private Ask product() throws Fault {
            Ask left = one();
            while (take("and")) {
                Ask a = left, b = one();
                left = (p, e) -> a.meets(p, e) && b.meets(p, e);
            }
            return left;
        }

        private Ask one() throws Fault {
            if (take("not")) {
                Ask a = one();
                return (p, e) -> !a.meets(p, e);
            }
            if (takeSign('(')) {
                if (++open > 5) throw new Fault(5, at - 1);
                Ask a = sum();
                want(takeSign(')'));
                open--;
                return a;
            }
            return leaf();
        }

        private Ask leaf() throws Fault {
            if (take("mark")) {
                int m = number(3, 0, 39);
                return (p, e) -> shows(p, m, e);
            }
            if (take("word")) {
                int t = number(3, 0, 3), w = number(3, 0, 99);
                return (p, e) -> marksOf(t, w).stream().anyMatch(m -> shows(p, m, e));
            }
            if (take("hand")) {
                int h = number(3, 0, 7);
                return (p, e) -> gave(h, p, e);
            }
            if (take("before")) {
                int y = number(3, 0, 999);
                return (p, e) -> pictures.get(p).year < y;
            }
            want(take("at"));
            int place = number(3, 0, 9);
            return (p, e) -> pictures.get(p).place == place;
        }
    }

    // ---- words, asks

    private Set<Integer> marksOf(int t, int w) {
        Set<Integer> marks = new TreeSet<>();
        for (Word word : words) if (word.tongue == t && word.number == w) marks.add(word.mark);
        return marks;
    }

    private boolean gave(int hand, int p, int e) {
        return givings.stream().anyMatch(g -> g.hand == hand && g.picture == p && g.edition <= e);
    }

    int word(int t, int w, int m) {
        if (!isMark(m)) return UNKNOWN;
        if (t < 0 || t > 3 || w < 0 || w > 99) return OUTSIDE;
        if (marksOf(t, w).contains(m)) return NOT;
        if (words.size() == 60) return FULL;
        words.add(new Word(t, w, m));
        return marksOf(t, w).size();
    }

    int leads(int t, int w) {
        if (t < 0 || t > 3 || w < 0 || w > 99) return OUTSIDE;
        return Math.min(2, marksOf(t, w).size());
    }

    int ask() {
        if (text.length() > 100) return NOT;
        if (asks.size() == 8) return FULL;
        try {
            asks.add(new AskReader().whole());
            faultAt = NONE;
            return asks.size() - 1;
        } catch (Fault f) {
            faultAt = f.at;
            return -10 - f.number;
        } finally {
            text = "";
        }
    }

    private static int nth(List<Integer> list, int i) {
        if (i == NONE) return list.size();
        return i >= 0 && i < list.size() ? list.get(i) : NONE;
    }

    int met(int a, int e, int i) {
        if (a < 0 || a >= asks.size()) return UNKNOWN;
        if (!isEdition(e)) return OUTSIDE;
        return nth(among(p -> asks.get(a).meets(p, e)), i);
    }

    // ---- hands, together, likely

    private boolean saw(int hand, int p, int m, int e) {
        for (int g = 0; g < givings.size(); g++) {
            Giving it = givings.get(g);
            if (it.hand == hand && it.picture == p && meansBelow(g, m, e)) return true;
        }
        return false;
    }

    int hands(int a, int b, int m, int e, int what) {
        if (!isMark(m)) return UNKNOWN;
        if (a < 0 || a > 7 || b < 0 || b > 7 || a == b || !isEdition(e) || what < 0 || what > 4) return OUTSIDE;
        int looked = 0, onlyA = 0, onlyB = 0, both = 0;
        for (int p = 0; p < pictures.size(); p++) {
            if (!gave(a, p, e) || !gave(b, p, e)) continue;
            looked++;
            boolean sawA = saw(a, p, m, e), sawB = saw(b, p, m, e);
            if (sawA && sawB) both++;
            else if (sawA) onlyA++;
            else if (sawB) onlyB++;
        }
        int missed = both == 0 ? NONE : onlyA * onlyB / both;
        return new int[] {looked, onlyA + both, onlyB + both, both, missed}[what];
    }

    private int[] numbers(int m, int n, int e, int from, int to) {
        int[] xyzn = new int[4];
        for (int p = 0; p < pictures.size(); p++) {
            if (pictures.get(p).year < from || pictures.get(p).year > to) continue;
            if (shows(p, m, e)) xyzn[0]++;
            if (shows(p, n, e)) xyzn[1]++;
            if (shows(p, m, e) && shows(p, n, e)) xyzn[2]++;
            xyzn[3]++;
        }
        return xyzn;
    }

    private static boolean beyond(int[] xyzn) {
        return xyzn[2] * xyzn[3] > xyzn[0] * xyzn[1];
    }

    int together(int m, int n, int e, int from, int to, int what) {
        if (!isMark(m) || !isMark(n)) return UNKNOWN;
        if (!isEdition(e) || from < 0 || to > 999 || to < from || what < 0 || what > 4) return OUTSIDE;
        int[] xyzn = numbers(m, n, e, from, to);
        return what < 4 ? xyzn[what] : beyond(xyzn) ? 1 : 0;
    }

    private List<Integer> apart(int m, int e) {
        List<Integer> some = new ArrayList<>();
        for (int n = 0; n < tellings.size(); n++) {
            if (there(n, e) && !isBelow(n, m, e) && !isBelow(m, n, e)) some.add(n);
        }
        return some;
    }

    private List<Integer> goingAlong(int m, int e) {
        List<Integer> some = apart(m, e);
        some.removeIf(n -> !beyond(numbers(m, n, e, 0, 999)));
        return some;
    }

    int along(int m, int e, int i) {
        if (!isMark(m)) return UNKNOWN;
        if (!isEdition(e)) return OUTSIDE;
        return nth(goingAlong(m, e), i);
    }

    int likely(int m, int e, int i) {
        if (!isMark(m)) return UNKNOWN;
        if (!isEdition(e)) return OUTSIDE;
        List<Integer> marks = goingAlong(m, e);
        int[] score = new int[pictures.size()];
        for (int p = 0; p < score.length; p++) for (int n : marks) if (shows(p, n, e)) score[p]++;
        List<Integer> some = among(p -> !shows(p, m, e) && score[p] > 0);
        some.sort((p, q) -> score[p] != score[q] ? score[q] - score[p] : p - q);
        return nth(some, i);
    }

    // ---- copies, stories, splits

    private int origin(int p) {
        return pictures.get(p).copy == NONE ? p : origin(pictures.get(p).copy);
    }

    long lacking(int p, int e) {
        if (!isPicture(p)) return UNKNOWN;
        if (!isEdition(e)) return OUTSIDE;
        long set = 0;
        for (int m = 0; m < tellings.size(); m++) {
            for (int g = 0; g < givings.size(); g++) {
                int other = givings.get(g).picture;
                boolean family = other != p && origin(other) == origin(p);
                if (family && meant(g, e) == m && !shows(p, m, e)) set |= 1L << m;
            }
        }
        return set;
    }

    int story() {
        if (stories.size() == 4) return FULL;
        stories.add(new ArrayList<>());
        return stories.size() - 1;
    }

    private boolean isStory(int s) {
        return s >= 0 && s < stories.size();
    }

    int moment(int s, int i, int m) {
        if (!isStory(s) || !isMark(m)) return UNKNOWN;
        List<List<Integer>> moments = stories.get(s);
        if (i < 0 || i > moments.size()) return OUTSIDE;
        if (i == 5 || i < moments.size() && moments.get(i).size() == 3) return FULL;
        if (i == moments.size()) moments.add(new ArrayList<>());
        moments.get(i).add(m);
        return moments.get(i).size();
    }

    int of(int p, int s, int e, int what) {
        if (!isPicture(p) || !isStory(s)) return UNKNOWN;
        if (!isEdition(e) || what < 0 || what > 2) return OUTSIDE;
        List<Integer> may = new ArrayList<>();
        for (int i = 0; i < stories.get(s).size(); i++) {
            if (stories.get(s).get(i).stream().allMatch(m -> shows(p, m, e))) may.add(i);
        }
        if (what == 0) return may.size();
        if (what == 1) return may.isEmpty() ? NONE : may.get(0);
        return may.size() == 1 ? 1 : 0;
    }

    int split(int m, int e, int what) {
        if (!isMark(m)) return UNKNOWN;
        if (!isEdition(e) || what < 0 || what > 1) return OUTSIDE;
        int best = NONE, least = NONE;
        for (int n : apart(m, e)) {
            int with = among(p -> shows(p, m, e) && shows(p, n, e)).size();
            int without = among(p -> shows(p, m, e) && !shows(p, n, e)).size();
            if (best != NONE && Math.max(with, without) >= least) continue;
            best = n;
            least = Math.max(with, without);
        }
        return what == 0 ? best : least;
    }
}
