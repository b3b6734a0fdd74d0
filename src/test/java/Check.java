import java.nio.charset.StandardCharsets;

/** What the tests share: answers held against those that are due, and texts fed by eights. */
final class Check {
    private int wrong = 0;
    private int looked = 0;

    void due(String call, long got, long want) {
        looked++;
        if (got == want) return;
        wrong++;
        System.out.println(call + " answered " + got + ", due is " + want);
    }

    void that(String what, boolean holds) {
        due(what, holds ? 1 : 0, 1);
    }

    boolean anyWrong() {
        return wrong > 0;
    }

    void finish() {
        System.out.println(looked + " answers, " + wrong + " not as due");
        if (wrong > 0 || looked == 0) System.exit(1);
    }

    /** Feeds a whole text; the answer of the last feed. */
    static int text(MarkTree x, String s) {
        byte[] bytes = s.getBytes(StandardCharsets.ISO_8859_1);
        int answer = 0;
        for (int at = 0; at < bytes.length; at += 8) {
            int n = Math.min(8, bytes.length - at);
            long chunk = 0;
            for (int k = 0; k < n; k++) chunk = chunk << 8 | (bytes[at + k] & 255);
            answer = x.feed(n, chunk);
        }
        return answer;
    }

    static int rule(MarkTree x, int e, String s) {
        text(x, s);
        return x.rule(e);
    }

    static int ask(MarkTree x, String s) {
        text(x, s);
        return x.ask();
    }

    /** A rule with a fault of that number at that byte. */
    void faultyRule(MarkTree x, String s, int fault, int at) {
        due("rule of '" + s + "'", rule(x, 0, s), -10 - fault);
        due("fault of '" + s + "'", x.fault(), at);
        due("text after '" + s + "'", x.count(9), 0);
    }

    /** An ask with a fault of that number at that byte. */
    void faultyAsk(MarkTree x, String s, int fault, int at) {
        due("ask of '" + s + "'", ask(x, s), -10 - fault);
        due("fault of '" + s + "'", x.fault(), at);
        due("text after '" + s + "'", x.count(9), 0);
    }
}
