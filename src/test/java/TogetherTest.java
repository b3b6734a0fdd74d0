/** Promises 23 to 26: hands, together, along, likely. */
public final class TogetherTest {
    private static final int NONE = MarkTree.NONE, UNKNOWN = MarkTree.UNKNOWN, OUTSIDE = MarkTree.OUTSIDE;
    private static final Check check = new Check();

    public static void main(String[] args) {
        handsRefusals();
        hands();
        handsByEditions();
        togetherRefusals();
        together();
        along();
        alongByThere();
        likely();
        check.finish();
    }

    /** Marks 1, 2, 3, 5 under the root, 4 under 1, and that many pictures, one a year. */
    private static MarkTree some(int pictures) {
        MarkTree x = new MarkTree();
        x.mark(0);
        x.mark(0);
        x.mark(0);
        x.mark(1);
        x.mark(0);
        for (int p = 0; p < pictures; p++) x.picture(p, 0, NONE);
        return x;
    }

    private static void handsRefusals() {
        MarkTree x = some(1);
        check.due("hands unknown", x.hands(8, 8, 6, 5, 5), UNKNOWN);
        check.due("hands a", x.hands(8, 1, 0, 0, 0), OUTSIDE);
        check.due("hands b", x.hands(0, -1, 0, 0, 0), OUTSIDE);
        check.due("hands alike", x.hands(3, 3, 0, 0, 0), OUTSIDE);
        check.due("hands edition", x.hands(0, 1, 0, 1, 0), OUTSIDE);
        check.due("hands what 5", x.hands(0, 1, 0, 0, 5), OUTSIDE);
        check.due("hands what -1", x.hands(0, 1, 0, 0, -1), OUTSIDE);
        check.due("hands none", x.hands(0, 1, 0, 0, 0), 0);
        check.due("hands none missed", x.hands(0, 1, 0, 0, 4), NONE);
    }

    private static void hands(MarkTree x, int a, int b, int e, int... want) {
        for (int what = 0; what < 5; what++) {
            check.due("hands " + a + " " + b + " in " + e + ": " + what, x.hands(a, b, 1, e, what), want[what]);
        }
    }

    private static void hands() {
        MarkTree x = some(12);
        for (int p = 0; p < 10; p++) {
            x.give(p, p < 7 ? 4 : 2, 0, 0);
            x.give(p, p < 2 || p == 8 || p == 7 || p == 9 ? 1 : 3, 1, 0);
        }
        x.give(10, 1, 0, 0);
        x.give(11, 1, 1, 0);
        hands(x, 0, 1, 0, 10, 7, 5, 2, 5 * 3 / 2);
        hands(x, 1, 0, 0, 10, 5, 7, 2, 7);
        hands(x, 0, 2, 0, 0, 0, 0, 0, NONE);
    }

    private static void handsByEditions() {
        MarkTree x = some(2);
        x.give(0, 1, 0, 0);
        x.give(0, 4, 1, 0);
        x.edition();
        x.give(1, 1, 0, 0);
        x.give(1, 2, 1, 0);
        x.doubt(1, 6);
        x.doubt(1, 7);
        hands(x, 0, 1, 0, 1, 1, 1, 1, 0);
        hands(x, 0, 1, 1, 2, 2, 0, 0, NONE);
    }

    private static void togetherRefusals() {
        MarkTree x = some(1);
        check.due("together m", x.together(6, 0, 9, 0, 0, 0), UNKNOWN);
        check.due("together n", x.together(0, -1, 0, 5, 0, 0), UNKNOWN);
        check.due("together edition", x.together(0, 0, 1, 0, 0, 0), OUTSIDE);
        check.due("together from -1", x.together(0, 0, 0, -1, 0, 0), OUTSIDE);
        check.due("together to 1000", x.together(0, 0, 0, 0, 1000, 0), OUTSIDE);
        check.due("together to below", x.together(0, 0, 0, 7, 6, 0), OUTSIDE);
        check.due("together what 5", x.together(0, 0, 0, 0, 0, 5), OUTSIDE);
        check.due("together what -1", x.together(0, 0, 0, 0, 0, -1), OUTSIDE);
        check.due("together one year", x.together(0, 0, 0, 0, 0, 3), 1);
        check.due("together a later year", x.together(0, 0, 0, 1, 999, 3), 0);
    }

    private static void together(MarkTree x, int m, int n, int from, int to, int... want) {
        for (int what = 0; what < 5; what++) {
            String call = "together " + m + " " + n + " " + from + ".." + to + ": " + what;
            check.due(call, x.together(m, n, 0, from, to, what), want[what]);
        }
    }

    private static void together() {
        MarkTree x = some(8);
        for (int p = 0; p < 4; p++) x.give(p, 4, 0, 0);
        for (int p = 2; p < 6; p++) x.give(p, 2, 0, 0);
        for (int p = 1; p < 4; p++) x.give(p, 3, 0, 0);
        together(x, 1, 2, 0, 999, 4, 4, 2, 8, 0);
        together(x, 1, 3, 0, 999, 4, 3, 3, 8, 1);
        together(x, 1, 2, 0, 5, 4, 4, 2, 6, 0);
        together(x, 1, 2, 2, 7, 2, 4, 2, 6, 1);
        together(x, 3, 3, 3, 3, 1, 1, 1, 1, 0);
        together(x, 1, 5, 0, 7, 4, 0, 0, 8, 0);
    }

    private static void along() {
        MarkTree x = some(4);
        check.due("along unknown", x.along(6, 9, 0), UNKNOWN);
        check.due("along edition", x.along(0, 1, 0), OUTSIDE);
        check.due("along edition -1", x.along(0, -1, 0), OUTSIDE);
        x.give(0, 4, 0, 0);
        x.give(0, 2, 0, 0);
        x.give(0, 3, 0, 0);
        x.give(1, 3, 0, 0);
        x.give(2, 5, 0, 0);
        check.due("along how many", x.along(1, 0, NONE), 2);
        check.due("along first", x.along(1, 0, 0), 2);
        check.due("along second", x.along(1, 0, 1), 3);
        check.due("along none such", x.along(1, 0, 2), NONE);
        check.due("along -2", x.along(1, 0, -2), NONE);
        check.due("along back", x.along(2, 0, NONE), 3);
        check.due("along of one below", x.along(2, 0, 2), 4);
        check.due("along with the root", x.along(0, 0, NONE), 0);
    }

    private static void alongByThere() {
        MarkTree x = some(2);
        x.give(0, 1, 0, 0);
        x.give(0, 2, 0, 0);
        x.give(0, 5, 0, 0);
        Check.rule(x, 0, "key 0 raises;");
        x.mark(2);
        x.give(0, 6, 0, 1);
        check.due("along in 0", x.along(1, 0, NONE), 2);
        x.edition();
        x.end(2, NONE);
        check.due("shown, but not there", x.led(0, 2, 1), 3);
        check.due("along in 1", x.along(1, 1, NONE), 1);
        check.due("along in 1 first", x.along(1, 1, 0), 5);
        check.due("along in 0 as ever", x.along(1, 0, 0), 2);
    }

    private static void likely() {
        MarkTree x = some(8);
        check.due("likely unknown", x.likely(6, 9, 0), UNKNOWN);
        check.due("likely edition", x.likely(0, 1, 0), OUTSIDE);
        check.due("likely edition -1", x.likely(0, -1, 0), OUTSIDE);
        for (int p = 0; p < 3; p++) {
            x.give(p, 4, 0, 0);
            x.give(p, 2, 0, 0);
            x.give(p, 3, 0, 0);
        }
        x.give(3, 2, 0, 0);
        x.give(5, 3, 0, 0);
        x.give(5, 2, 0, 0);
        x.give(6, 3, 0, 0);
        x.give(7, 5, 0, 0);
        check.due("along", x.along(1, 0, NONE), 2);
        check.due("likely how many", x.likely(1, 0, NONE), 3);
        check.due("likely first", x.likely(1, 0, 0), 5);
        check.due("likely of like ones the lesser", x.likely(1, 0, 1), 3);
        check.due("likely last", x.likely(1, 0, 2), 6);
        check.due("likely none such", x.likely(1, 0, 3), NONE);
        check.due("likely -2", x.likely(1, 0, -2), NONE);
        check.due("likely for the root", x.likely(0, 0, NONE), 0);
    }
}
