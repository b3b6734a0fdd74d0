import java.util.Random;

/** Texts of rules and asks, most of them good, some with a byte or a number that is off. */
final class Texts {
    private Texts() { }

    static String rule(Random random) {
        StringBuilder s = new StringBuilder();
        int clauses = random.nextInt(12) == 0 ? 8 + random.nextInt(3) : 1 + random.nextInt(4);
        for (int i = 0; i < clauses; i++) s.append(clause(random)).append(blank(random));
        return spoilt(random, s, 160);
    }

    private static String clause(Random random) {
        String b = blank(random), c = blank(random);
        switch (random.nextInt(9)) {
            case 0: case 1: return "key" + b + number(random, 6, 2) + c + new String[] {"keeps", "turns", "raises"}[random.nextInt(3)] + ";";
            case 2: case 3: return "allow" + b + number(random, 6, 2) + c + "under" + b + number(random, 8, 2) + c + ";";
            case 4: return "bar " + number(random, 6, 2) + b + "with" + c + number(random, 6, 2) + ";";
            case 5: case 6: return "need " + number(random, 8, 2) + b + "with" + c + number(random, 8, 2) + ";";
            case 7: return "most" + b + number(random, 5, 2) + ";";
            default: return "strike" + b + number(random, 4, 2) + c + ";";
        }
    }

    static String ask(Random random) {
        if (random.nextInt(30) == 0) return "(".repeat(6) + one(random, 0) + ")".repeat(6);
        return spoilt(random, new StringBuilder(sum(random, random.nextInt(5))), random.nextInt(40) == 0 ? 103 : 100);
    }

    private static String sum(Random random, int deep) {
        StringBuilder s = new StringBuilder(one(random, deep));
        for (int i = random.nextInt(3); i > 0; i--) {
            s.append(random.nextBoolean() ? " and " : " or ").append(one(random, deep));
        }
        return s.toString();
    }

    private static String one(Random random, int deep) {
        String b = blank(random);
        if (random.nextInt(4) == 0) return "not " + one(random, deep);
        if (deep > 0 && random.nextInt(2) == 0) return "(" + b + sum(random, deep - 1) + ")" + b;
        switch (random.nextInt(7)) {
            case 0: return "word" + b + number(random, 3, 3) + " " + number(random, 3, 3);
            case 1: return "hand" + b + number(random, 3, 3);
            case 2: return "before " + number(random, 1000, 3);
            case 3: return "at" + b + number(random, 10, 3);
            default: return "mark" + b + number(random, 12, 3);
        }
    }

    private static String blank(Random random) {
        return " ".repeat(random.nextInt(5) == 0 ? 2 : random.nextInt(2));
    }

    private static String number(Random random, int below, int figures) {
        if (random.nextInt(60) == 0) return "0".repeat(random.nextInt(figures + 1)) + random.nextInt(120);
        return String.valueOf(random.nextInt(below));
    }

    private static String spoilt(Random random, StringBuilder s, int most) {
        if (random.nextInt(5) == 0 && s.length() > 0) {
            int at = random.nextInt(s.length());
            switch (random.nextInt(4)) {
                case 0: s.setCharAt(at, (char) random.nextInt(256)); break;
                case 1: s.deleteCharAt(at); break;
                case 2: s.insert(at, " ();7a".charAt(random.nextInt(6))); break;
                default: s.setLength(at); break;
            }
        }
        if (s.length() > most) s.setLength(most);
        return s.toString();
    }
}
