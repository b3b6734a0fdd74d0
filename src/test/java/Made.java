/** Objects that several tests start from, with calls left to them: 512 are all that an object has. */
final class Made {
    static final int NONE = MarkTree.NONE;

    private Made() { }

    /**
     * NOW is 2. Marks 0 to 4: 1, 2 under the root, 3 under 1, 4 under the root and ended in 1.
     * Pictures 0, 1 and 2, a copy of 0. Givings 0 to 3, the last told in 2. A rule, an ask, a story
     * with two moments, a word that leads to two marks; eight bytes of a text, and a fault at 5.
     */
    static MarkTree small() {
        MarkTree x = new MarkTree();
        x.mark(0);
        x.mark(0);
        x.mark(1);
        x.mark(0);
        x.picture(10, 1, NONE);
        x.picture(500, 2, NONE);
        x.picture(999, 9, 0);
        x.give(0, 3, 0, 0);
        x.give(0, 2, 1, 1);
        x.give(1, 2, 0, 2);
        x.word(1, 2, 1);
        x.word(1, 2, 2);
        Check.rule(x, 0, "most 3; key 0 raises; bar 1 with 2; allow 2 under 1; need 1 with 2;");
        Check.ask(x, "mark 1 or hand 0");
        x.story();
        x.moment(0, 0, 1);
        x.moment(0, 1, 2);
        x.moment(0, 1, 2);
        x.moment(0, 1, 2);
        x.edition();
        x.end(4, 2);
        x.move(2, 3);
        x.edition();
        x.give(1, 3, 7, 0);
        x.doubt(1, 0);
        Check.rule(x, 0, "most 40;");
        Check.text(x, "strike 0");
        return x;
    }

    /**
     * NOW is 9, and there is of everything as much as there can be; mark 39, under 38, is ended,
     * and of one story a moment has room, of another one a mark. The text, of 160 bytes, is full.
     */
    static MarkTree full() {
        MarkTree x = new MarkTree();
        for (int e = 1; e <= 9; e++) x.edition();
        for (int m = 1; m <= 39; m++) x.mark(m < 20 ? 0 : m - 1);
        for (int p = 0; p < 40; p++) x.picture(25 * p, p % 10, p < 20 ? NONE : p - 20);
        for (int g = 0; g < 120; g++) x.give(g % 40, g % 39, g % 8, g % 7 == 0 ? 1 : 0);
        x.end(39, NONE);
        for (int r = 0; r < 8; r++) Check.rule(x, r, "most " + (r + 1) + ";");
        for (int w = 0; w < 60; w++) x.word(w % 4, w, w % 39);
        for (int a = 0; a < 8; a++) Check.ask(x, "at " + a);
        for (int s = 0; s < 4; s++) tellStory(x, s);
        for (int k = 0; k < 20; k++) x.feed(8, 0x206d6f737420353bL);
        return x;
    }

    private static void tellStory(MarkTree x, int s) {
        x.story();
        int moments = s == 2 ? 4 : 5;
        for (int i = 0; i < moments; i++) {
            int marks = s == 3 && i == 4 ? 2 : 3;
            for (int k = 0; k < marks; k++) x.moment(s, i, i + k);
        }
    }
}
