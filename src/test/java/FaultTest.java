/**
 * Each FAULT at its byte: at every place of every clause and of an ask what cannot stand there, the
 * end of the text among it; numbers at their bounds; the ninth clause, the sixth bracket; texts that
 * are empty or full.
 */
public final class FaultTest {
    private static final int NONE = MarkTree.NONE, NOT = MarkTree.NOT, FULL = MarkTree.FULL;
    private static final Check check = new Check();

    /** What can stand at no place: words, signs and bytes that are none. */
    private static final String[] NEVER = {"foo", "a", "z", "keyz", "zkey", "xey", "kez", "allo", "mosta", "strikes",
        "marka", "wordy", "nota", "ands", "ors", "a1", "z9", "Key", "MARK", "kEy", ",", ".", ":", "-1", "+1", "`", "{", "/",
        "@", "[", "'key'", "\t", "\n", "\r", "" + (char) 0, "" + (char) 31, "" + (char) 33, "" + (char) 127,
        "" + (char) 128, "" + (char) 160, "" + (char) 255};

    /** Clauses with a blank between any two of their parts; a number by its bounds, in angles. */
    private static final String[] CLAUSES = {"key <0-5> keeps ;", "key <0-5> turns ;", "key <0-5> raises ;",
        "allow <0-5> under <0-39> ;", "bar <0-5> with <0-5> ;", "need <0-39> with <0-39> ;", "most <1-20> ;",
        "strike <0-1> ;"};

    private static final String[] ONES = {"mark <0-39>", "word <0-3> <0-99>", "hand <0-7>", "before <0-999>", "at <0-9>"};

    private static final String[] RULE_WORDS = {"key", "allow", "bar", "need", "most", "strike", "keeps", "turns",
        "raises", "under", "with"};
    /** Those that begin no clause. */
    private static final String[] INNER_WORDS = {"keeps", "turns", "raises", "under", "with"};
    private static final String[] ASK_WORDS = {"or", "and", "not", "mark", "word", "hand", "before", "at"};

    public static void main(String[] args) {
        for (String clause : CLAUSES) ruleAtEachPart(clause);
        for (String clause : CLAUSES) ruleNumbers(clause);
        afterClauses();
        strikes();
        ninthClause();
        emptyTexts();
        fullRules();
        for (String one : ONES) askAtEachPart(one);
        for (String one : ONES) askNumbers(one);
        whereAOneIsDue();
        whereNoOneCanStand();
        brackets();
        fullAsks();
        faultOfTheLatest();
        nothingStaysOfAFault();
        check.finish();
    }

    /** Two rules, so that strikes of 0 and 1 are good ones. */
    private static MarkTree twoRules() {
        MarkTree x = new MarkTree();
        Check.rule(x, 9, "most 7;");
        Check.rule(x, 9, "most 8;");
        return x;
    }

    private static void faultyRule(String s, int fault, int at) {
        MarkTree x = twoRules();
        check.faultyRule(x, s, fault, at);
        check.due("rules after '" + s + "'", x.count(8), 2);
        check.due("the next after '" + s + "'", Check.rule(x, 0, "most 3;"), 2);
    }

    private static void goodRule(String s) {
        MarkTree x = twoRules();
        check.due("rule of '" + s + "'", Check.rule(x, 0, s), 2);
        check.due("no fault of '" + s + "'", x.fault(), NONE);
        check.due("text after '" + s + "'", x.count(9), 0);
    }

    private static void faultyAsk(String s, int fault, int at) {
        MarkTree x = new MarkTree();
        check.faultyAsk(x, s, fault, at);
        check.due("asks after '" + s + "'", x.count(11), 0);
        check.due("the next after '" + s + "'", Check.ask(x, "at 3"), 0);
    }

    private static void goodAsk(String s) {
        MarkTree x = new MarkTree();
        check.due("ask of '" + s + "'", Check.ask(x, s), 0);
        check.due("no fault of '" + s + "'", x.fault(), NONE);
        check.due("text after '" + s + "'", x.count(9), 0);
    }

    // ---- parts of clauses and of ones

    private static boolean isNumber(String part) {
        return part.charAt(0) == '<';
    }

    private static int bound(String part, int which) {
        return Integer.parseInt(part.replaceAll("[<>]", "").split("-")[which]);
    }

    /** The parts from one to another, with the least number for each, a blank behind each. */
    private static String text(String[] parts, int from, int to) {
        StringBuilder s = new StringBuilder();
        for (int i = from; i < to; i++) s.append(isNumber(parts[i]) ? "" + bound(parts[i], 0) : parts[i]).append(' ');
        return s.toString();
    }

    private static boolean isSense(String word) {
        return word.equals("keeps") || word.equals("turns") || word.equals("raises");
    }

    private static boolean canStand(String[] parts, int i, String word) {
        return parts[i].equals(word) || isSense(word) && isSense(parts[i]);
    }

    private static void ruleAtEachPart(String clause) {
        String[] parts = clause.split(" ");
        for (int i = 0; i < parts.length; i++) {
            String ahead = text(parts, 0, i), behind = text(parts, i + 1, parts.length);
            for (String never : NEVER) faultyRule(ahead + never + " " + behind, 1, ahead.length());
            for (String sign : new String[] {"(", ")"}) faultyRule(ahead + sign + behind, 1, ahead.length());
            if (i > 0) faultyRule(ahead, 1, ahead.length());
            if (i > 0) faultyRule(ahead.trim(), 1, ahead.length() - 1);
            if (!parts[i].equals(";")) faultyRule(ahead + ";" + behind, 1, ahead.length());
            for (String n : new String[] {"0", "99", "100", "0000"}) {
                if (!isNumber(parts[i])) faultyRule(ahead + n + " " + behind, 1, ahead.length());
            }
            for (String word : i == 0 ? INNER_WORDS : RULE_WORDS) {
                if (!canStand(parts, i, word)) faultyRule(ahead + word + " " + behind, 1, ahead.length());
            }
        }
        goodRule(text(parts, 0, parts.length));
        goodRule(text(parts, 0, parts.length).replace(" ", ""));
        goodRule("   " + text(parts, 0, parts.length).replace(" ", "   "));
    }

    /** A number at its bounds and beyond, and of more figures than it may have. */
    private static void ruleNumbers(String clause) {
        String[] parts = clause.split(" ");
        for (int i = 0; i < parts.length; i++) {
            if (!isNumber(parts[i])) continue;
            String ahead = text(parts, 0, i), behind = text(parts, i + 1, parts.length);
            int low = bound(parts[i], 0), high = bound(parts[i], 1);
            int beyond = parts[0].equals("strike") ? 3 : 2;
            for (int n = low; n <= high; n++) goodRule(ahead + n + behind);
            for (int n = 0; n <= 9; n++) if (n >= low && n <= high) goodRule(ahead + "0" + n + " " + behind);
            for (int n = 0; n <= 99; n++) if (n < low || n > high) faultyRule(ahead + n + " " + behind, beyond, ahead.length());
            if (low == 1) faultyRule(ahead + "00" + behind, 2, ahead.length());
            for (String n : new String[] {"000", "001", "100", "999", "0000", "4294967296", "4294967297", "18446744073709551617"}) {
                faultyRule(ahead + n + " " + behind, 2, ahead.length());
                faultyRule(ahead + n, 2, ahead.length());
            }
            if (low == 0) faultyRule(ahead + "0 0" + behind, 1, ahead.length() + 2);
        }
    }

    /** The same behind one clause and behind seven, at bytes that are further on. */
    private static void afterClauses() {
        for (int many : new int[] {1, 7}) {
            String ahead = "most 5 ; ".repeat(many);
            int at = ahead.length();
            faultyRule(ahead + "foo", 1, at);
            faultyRule(ahead + ";", 1, at);
            faultyRule(ahead + "7", 1, at);
            faultyRule(ahead + "key", 1, at + 3);
            faultyRule(ahead + "key ", 1, at + 4);
            faultyRule(ahead + "key 6 foo", 2, at + 4);
            faultyRule(ahead + "strike 2 foo", 3, at + 7);
            faultyRule(ahead + "most 20", 1, at + 7);
            faultyRule(ahead + "most 21;", 2, at + 5);
            goodRule(ahead + "most 20;");
        }
        faultyRule("most 5; key 6 turns; foo", 2, 12);
        faultyRule("most 5 key 6 turns;", 1, 7);
        faultyRule("strike 2; key 6 turns;", 3, 7);
        faultyRule("strike 100; strike 2;", 2, 7);
    }

    /** There are so many rules as there are; the one that is read is not there already. */
    private static void strikes() {
        MarkTree x = new MarkTree();
        for (int r = 0; r < 8; r++) {
            check.faultyRule(x, "strike " + r + ";", 3, 7);
            check.faultyRule(x, "strike  0" + r + ";", 3, 8);
            if (r > 0) check.due("strike the last there is", Check.rule(x, 9, "strike " + (r - 1) + ";"), r);
            else check.due("a first one", Check.rule(x, 9, ""), 0);
        }
        check.due("rules", x.count(8), 8);
    }

    private static void ninthClause() {
        String eight = "strike1;".repeat(8);
        goodRule(eight);
        goodRule(eight + "    ");
        for (String clause : CLAUSES) {
            String[] parts = clause.split(" ");
            String ninth = text(parts, 0, parts.length);
            goodRule(eight.substring(8) + ninth);
            faultyRule(eight + ninth, 4, 64);
            faultyRule(eight + "  " + ninth, 4, 66);
            faultyRule(eight + parts[0], 4, 64);
            faultyRule(eight + parts[0] + " 777 foo", 4, 64);
            faultyRule(eight + parts[0] + "x", 1, 64);
        }
        for (String never : NEVER) faultyRule(eight + never, 1, 64);
        faultyRule(eight + ";", 1, 64);
        faultyRule(eight + "100", 1, 64);
        faultyRule(eight + "most 5;".repeat(9), 4, 64);
        faultyRule("strike2;".repeat(9), 3, 6);
    }

    private static void emptyTexts() {
        goodRule("");
        goodRule(" ");
        goodRule(" ".repeat(160));
        faultyAsk("", 1, 0);
        faultyAsk(" ", 1, 1);
        faultyAsk(" ".repeat(100), 1, 100);
    }

    /** 160 bytes: the last of them counts, and the end is at 160. */
    private static void fullRules() {
        String most = "most 5;";
        for (int fill = 151; fill <= 153; fill++) goodRule(" ".repeat(fill) + most);
        goodRule(most + " ".repeat(153));
        faultyRule(" ".repeat(154) + "most 5", 1, 160);
        faultyRule(most + " ".repeat(150) + "key", 1, 160);
        faultyRule(most + " ".repeat(152) + "x", 1, 159);
        faultyRule(most + " ".repeat(152) + ";", 1, 159);
        faultyRule(" ".repeat(155) + "key 6", 2, 159);
        faultyRule(" ".repeat(152) + "strike 2", 3, 159);
        faultyRule("most 5;".repeat(8) + " ".repeat(100) + "most", 4, 156);
        faultyRule("a".repeat(160), 1, 0);
        faultyRule("most " + "1".repeat(155), 2, 5);
        MarkTree x = new MarkTree();
        Check.text(x, " ".repeat(153) + "most 5");
        check.due("159 bytes", x.count(9), 159);
        check.due("two more", x.feed(2, 0x3b3b), FULL);
        check.due("one more", x.feed(1, ';'), 160);
        check.due("and no more", x.feed(1, ';'), FULL);
        check.due("what was refused is not in it", x.rule(0), 0);
        check.due("it holds", x.force(0, 0), 5);
        check.due("the text can be fed again", Check.text(x, " ".repeat(160)), 160);
    }

    // ---- asks

    private static void askAtEachPart(String one) {
        String[] parts = one.split(" ");
        for (int i = 1; i < parts.length; i++) {
            String ahead = text(parts, 0, i);
            for (String never : NEVER) faultyAsk(ahead + never, 1, ahead.length());
            for (String sign : new String[] {"(", ")", ";"}) faultyAsk(ahead + sign, 1, ahead.length());
            for (String word : ASK_WORDS) faultyAsk(ahead + word, 1, ahead.length());
            faultyAsk(ahead, 1, ahead.length());
            faultyAsk(ahead.trim(), 1, ahead.length() - 1);
        }
        goodAsk(text(parts, 0, parts.length));
        goodAsk("  " + text(parts, 0, parts.length).replace(" ", "   "));
        goodAsk(text(parts, 0, parts.length).replaceFirst(" ", ""));
    }

    private static void askNumbers(String one) {
        String[] parts = one.split(" ");
        for (int i = 1; i < parts.length; i++) {
            String ahead = text(parts, 0, i), behind = " " + text(parts, i + 1, parts.length);
            int low = bound(parts[i], 0), high = bound(parts[i], 1);
            for (int n = low; n <= high; n++) goodAsk(ahead + n + behind);
            for (String n : new String[] {"00", "000", "001", "003", "03"}) goodAsk(ahead + n + behind);
            for (int n = high + 1; n <= Math.min(999, high + 300); n++) faultyAsk(ahead + n + behind, 2, ahead.length());
            for (String n : new String[] {"0000", "0001", "1000", "9999", "00000", "4294967296", "18446744073709551617"}) {
                faultyAsk(ahead + n + behind, 2, ahead.length());
                faultyAsk(ahead + n, 2, ahead.length());
            }
            if (high < 999) faultyAsk(ahead + "999 foo", 2, ahead.length());
        }
        String whole = text(parts, 0, parts.length);
        faultyAsk(whole + "0", 1, whole.length());
        faultyAsk(whole + "0000", 1, whole.length());
    }

    /** At the start, and behind a bracket, 'not', 'and' and 'or'. */
    private static void whereAOneIsDue() {
        String[] aheads = {"", "  ", "(", "( ", "((((", "not ", "not not ", "not(", "at 1 and ", "at 1 or ", "at1and not ",
            "(at 1)or ", "(at 1 and(", "at 1 or not("};
        for (String ahead : aheads) {
            for (String never : NEVER) faultyAsk(ahead + never, 1, ahead.length());
            for (String never : new String[] {")", ";", "0", "99", "0000", "or", "and", "or at 1", "and at 1"}) {
                faultyAsk(ahead + never, 1, ahead.length());
            }
            faultyAsk(ahead, 1, ahead.length());
        }
        faultyAsk("not", 1, 3);
        faultyAsk("at 1 and", 1, 8);
        faultyAsk("at 1 or", 1, 7);
        faultyAsk("notmark 1", 1, 0);
        faultyAsk("not markmark 1", 1, 4);
        faultyAsk("at 1 andat 2", 1, 5);
        faultyAsk("at 1 ornot at 2", 1, 5);
    }

    /** Behind a one nothing but 'and', 'or', a bracket that closes one, and the end. */
    private static void whereNoOneCanStand() {
        String[] aheads = {"at 1 ", "at 1", "not at 1 ", "(at 1) ", "(at 1)", "at 1 and at 2 ", "at 1 or(at 2)"};
        for (String ahead : aheads) {
            boolean behindFigure = ahead.endsWith("1") || ahead.endsWith("2");
            for (String never : NEVER) faultyAsk(ahead + never, 1, ahead.length());
            for (String word : new String[] {"not", "mark", "word", "hand", "before", "at"}) {
                faultyAsk(ahead + word, 1, ahead.length());
                faultyAsk(ahead + word + " 1", 1, ahead.length());
            }
            for (String sign : new String[] {"(", ")", ";"}) faultyAsk(ahead + sign, 1, ahead.length());
            if (!behindFigure) for (String n : new String[] {"0", "0000"}) faultyAsk(ahead + n, 1, ahead.length());
            goodAsk(ahead);
            goodAsk(ahead + "   ");
            goodAsk(ahead + "and at 3");
            goodAsk(ahead + "or at 3");
        }
    }

    private static void brackets() {
        for (int deep = 1; deep <= 5; deep++) {
            String open = "(".repeat(deep), close = ")".repeat(deep);
            goodAsk(open + "at 1" + close);
            faultyAsk(open + "at 1", 1, deep + 4);
            faultyAsk(open + "at 1" + close.substring(1), 1, 2 * deep + 3);
            faultyAsk(open + "at 1" + close + ")", 1, 2 * deep + 4);
            faultyAsk(open + "at 1 (", 1, deep + 5);
            faultyAsk(open + close, 1, deep);
            goodAsk(open + "at 1" + close + "and" + open + "at 2" + close);
        }
        for (int more = 6; more <= 20; more++) {
            faultyAsk("(".repeat(more) + "at 1" + ")".repeat(more), 5, 5);
            faultyAsk("(".repeat(more), 5, 5);
        }
        faultyAsk("( ( ( ( ( ( foo", 5, 10);
        faultyAsk("(((((not(at 1", 5, 8);
        faultyAsk("(((((at 1 and(", 5, 13);
        faultyAsk("(((((at 1 or not  (", 5, 18);
        faultyAsk("(((((at 1)or((", 5, 13);
        faultyAsk("(((((at 1(", 1, 9);
        faultyAsk("(((((at (", 1, 8);
        goodAsk("(((((at 1)or(at 2))and(at 3))))");
        goodAsk("(((((at 1)))))and(((((at 2)))))or(((((at 3)))))");
    }

    /** 100 bytes are an ask, 101 are not one; the end of the longest is at 100. */
    private static void fullAsks() {
        goodAsk(" ".repeat(96) + "at 1");
        goodAsk("at 1" + " ".repeat(96));
        goodAsk("at1or ".repeat(16) + "at 1");
        goodAsk("not ".repeat(24) + "at 1");
        goodAsk("not(not(not(not(not(" + "not ".repeat(17) + "at1" + "    )))))");
        faultyAsk(" ".repeat(95) + "mark ", 1, 100);
        faultyAsk("at 1" + " ".repeat(95) + ")", 1, 99);
        faultyAsk("(at 1" + " ".repeat(95), 1, 100);
        faultyAsk(" ".repeat(98) + "at", 1, 100);
        goodAsk(" ".repeat(95) + "mark0");
        faultyAsk(" ".repeat(93) + "mark 40", 2, 98);
        faultyAsk(" ".repeat(94) + "((((((", 5, 99);
        faultyAsk("a".repeat(100), 1, 0);
        faultyAsk("at " + "1".repeat(97), 2, 3);
        for (int length : new int[] {101, 102, 159, 160}) {
            MarkTree x = new MarkTree();
            check.faultyAsk(x, "at 1 or foo", 1, 8);
            Check.text(x, "at 1" + " ".repeat(length - 4));
            check.due("ask of " + length + " bytes", x.ask(), NOT);
            check.due("it stays", x.count(9), length);
            check.due("the fault stays", x.fault(), 8);
            check.due("no ask", x.count(11), 0);
            check.due("it is read as a rule", x.rule(0), -11);
            check.due("its fault", x.fault(), 0);
        }
    }

    // ---- which fault is told

    private static void faultOfTheLatest() {
        MarkTree x = new MarkTree();
        check.due("none at first", x.fault(), NONE);
        check.faultyAsk(x, "at 10", 2, 3);
        check.faultyRule(x, "most 0;", 2, 5);
        x.rule(-1);
        x.rule(10);
        check.due("a rule that is refused", x.fault(), 5);
        Check.ask(x, "at 9");
        check.due("a good ask", x.fault(), NONE);
        check.faultyRule(x, "  most", 1, 6);
        Check.rule(x, 0, "most 1;");
        check.due("a good rule", x.fault(), NONE);
        for (int r = 1; r < 8; r++) Check.rule(x, 0, "");
        for (int a = 1; a < 7; a++) Check.ask(x, "at 9");
        check.faultyAsk(x, "at", 1, 2);
        Check.text(x, "foo");
        check.due("rules are full", x.rule(0), FULL);
        check.due("its fault is that of the latest that was read", x.fault(), 2);
        check.due("an ask with a fault", x.ask(), -11);
        check.due("at 0", x.fault(), 0);
        Check.ask(x, "at 9");
        Check.text(x, "at 9 9");
        check.due("asks are full", x.ask(), FULL);
        check.due("the fault of the good one", x.fault(), NONE);
        x.count(99);
        x.feed(9, 0);
        check.due("other refusals do not count", x.fault(), NONE);
    }

    /** A text with a fault leaves nothing behind: no clause, no open bracket, no sign that waits. */
    private static void nothingStaysOfAFault() {
        MarkTree x = new MarkTree();
        x.picture(0, 1, NONE);
        x.picture(0, 2, NONE);
        check.faultyRule(x, "key 0 turns; allow 1 under 1; bar 1 with 2; need 1 with 2; most 3; foo", 1, 67);
        check.due("a rule without clauses", x.rule(0), 0);
        int[] want = {20, 0, 0, 0, 0, 0, 0, 0, 0, 0};
        for (int what = 0; what < 10; what++) check.due("force " + what, x.force(9, what), want[what]);
        for (String faulty : new String[] {"not (((((at 2 or at 2 and not", "(((((at 1 or at 1)))) and", "at 2 and not not ("}) {
            check.due("ask of " + faulty, Check.ask(x, faulty), -11);
            int a = Check.ask(x, "(((((at 1)))))");
            check.due("met by the one behind " + faulty, x.met(a, 0, NONE), 1);
            check.due("which", x.met(a, 0, 0), 0);
        }
        check.due("one with two", Check.ask(x, "at 1 or at 2"), 3);
        check.due("met by both", x.met(3, 0, NONE), 2);
    }
}
