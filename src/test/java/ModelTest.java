import java.lang.reflect.InvocationTargetException;
import java.lang.reflect.Method;
import java.lang.reflect.Modifier;
import java.util.ArrayList;
import java.util.Arrays;
import java.util.List;
import java.util.Random;

/** Long runs of calls by a fixed row of seeds, each answer held against the one of the Model. */
public final class ModelTest {
    private static final int RUNS = 600, CALLS = 512;
    private static final Check check = new Check();

    private final Random random;
    private final MarkTree x = new MarkTree();
    private final Model model = new Model();
    private final List<String> log = new ArrayList<>();
    /** How many calls are still left to the object. */
    private int left = CALLS;
    private final boolean wild;

    private ModelTest(long seed) {
        random = new Random(seed);
        wild = seed % 10 == 9;
    }

    public static void main(String[] args) throws Exception {
        for (int seed = 0; seed < RUNS && !check.anyWrong(); seed++) new ModelTest(seed).run();
        for (Method m : Model.class.getDeclaredMethods()) {
            if (!Modifier.isPrivate(m.getModifiers()) && !m.isSynthetic()) new ModelTest(0).extremes(m);
        }
        check.finish();
    }

    /** Every choice of arguments at and beyond the edges of what a number can be. */
    private void extremes(Method m) throws Exception {
        Class<?>[] types = m.getParameterTypes();
        int[] edges = {Integer.MIN_VALUE, -2, -1, 0, 1, 64, Integer.MAX_VALUE};
        call("mark", 0);
        call("picture", 0, 0, -1);
        call("give", 0, 1, 0, 0);
        call("story");
        read("mark 1", "ask");
        left = Integer.MAX_VALUE;
        int all = (int) Math.pow(edges.length, types.length);
        for (int choice = 0; choice < Math.min(all, 20000); choice++) {
            Object[] args = new Object[types.length];
            for (int i = 0, rest = choice; i < args.length; i++, rest /= edges.length) {
                int edge = edges[rest % edges.length];
                if (types[i] == long.class) args[i] = (long) edge;
                else args[i] = edge;
            }
            call(m.getName(), args);
        }
    }

    private void run() throws Exception {
        int busy = 1 + random.nextInt(4);
        for (int i = 0; i < 4 + random.nextInt(20); i++) call("mark", mark());
        for (int i = 0; i < 2 + random.nextInt(12); i++) call("picture", year(), random.nextInt(10), pictureOrNone());
        while (left > 0 && !check.anyWrong()) {
            if (random.nextInt(10) < busy) change();
            else look();
        }
    }

    private void change() throws Exception {
        switch (random.nextInt(24)) {
            case 0: call("edition"); break;
            case 1: call("mark", mark()); break;
            case 2: call("move", mark(), mark()); break;
            case 3: call("end", mark(), random.nextInt(3) == 0 ? -1 : mark()); break;
            case 4: call("picture", year(), random.nextInt(11), pictureOrNone()); break;
            case 5: case 6: call("doubt", giving(), hand()); break;
            case 7: case 8: case 9: call("word", random.nextInt(3), random.nextInt(3), mark()); break;
            case 10: read(Texts.rule(random), "rule", ruleEdition()); break;
            case 11: case 12: read(Texts.ask(random), "ask"); break;
            case 13: call("story"); break;
            case 14: case 15: call("moment", within(model.count(12)), random.nextInt(6), mark()); break;
            default: call("give", picture(), mark(), hand(), random.nextInt(3) == 0 ? random.nextInt(65) : 0); break;
        }
    }

    private void look() throws Exception {
        switch (random.nextInt(18)) {
            case 0: call("tree", mark(), edition(), random.nextInt(8)); break;
            case 1: call("below", mark(), mark(), edition()); break;
            case 2: call("told", giving(), random.nextInt(3) > 0 ? 5 : random.nextInt(8)); break;
            case 3: case 4: call("means", giving(), edition(), random.nextInt(4)); break;
            case 5: call("led", picture(), mark(), edition()); break;
            case 6: call("count", random.nextInt(14)); break;
            case 7: call("force", random.nextInt(11), random.nextInt(11)); break;
            case 8: call("leads", random.nextInt(4), random.nextInt(4)); break;
            case 9: case 10: call("met", within(model.count(11)), edition(), random.nextInt(8) - 2); break;
            case 11: call("hands", hand(), hand(), mark(), edition(), random.nextInt(6)); break;
            case 12: call("together", mark(), mark(), edition(), year() / 3, year(), random.nextInt(6)); break;
            case 13: call("along", mark(), edition(), random.nextInt(6) - 2); break;
            case 14: call("likely", mark(), edition(), random.nextInt(6) - 2); break;
            case 15: call("lacking", picture(), edition()); break;
            case 16: call("of", picture(), within(model.count(12)), edition(), random.nextInt(4)); break;
            default: call("split", mark(), edition(), random.nextInt(3)); break;
        }
    }

    private int ruleEdition() {
        return random.nextInt(20) == 0 ? 10 : random.nextInt(2) == 0 ? model.count(0) : random.nextInt(10);
    }

    private void read(String s, String name, Object... args) throws Exception {
        feedAll(s);
        call(name, args);
        call("fault");
    }

    private void feedAll(String s) throws Exception {
        for (int at = 0; at < s.length(); at += 8) {
            int n = Math.min(8, s.length() - at);
            long chunk = random.nextLong();
            for (int k = 0; k < n; k++) chunk = chunk << 8 | s.charAt(at + k);
            call("feed", n, chunk);
        }
    }

    /** A few marks and pictures come up often, so that they have to do with one another. */
    private int mark() {
        return within(random.nextInt(2) == 0 ? Math.min(7, model.count(1)) : model.count(1));
    }

    private int picture() {
        return within(random.nextInt(2) == 0 ? Math.min(5, model.count(3)) : model.count(3));
    }

    private int giving() {
        return within(model.count(4));
    }

    private int edition() {
        return random.nextInt(3) == 0 ? model.count(0) : within(model.count(0) + 1);
    }

    /** Now and then one out of bounds; in a wild run far out of them. */
    private int within(int n) {
        if (n > 0 && random.nextInt(25) > 0) return random.nextInt(n);
        return wild ? random.nextInt() : random.nextInt(2) == 0 ? n : -1;
    }

    private int pictureOrNone() {
        return random.nextInt(2) == 0 ? -1 : picture();
    }

    private int hand() {
        return random.nextInt(3) == 0 ? within(8) : random.nextInt(3);
    }

    private int year() {
        return random.nextInt(30) == 0 ? 999 + random.nextInt(2) : random.nextInt(1000);
    }

    private void call(String name, Object... args) throws Exception {
        if (left == 0) return;
        left--;
        Class<?>[] types = new Class<?>[args.length];
        for (int i = 0; i < args.length; i++) types[i] = args[i] instanceof Long ? long.class : int.class;
        long want = answer(Model.class.getDeclaredMethod(name, types), model, args);
        long got = answer(MarkTree.class.getMethod(name, types), x, args);
        log.add(name + Arrays.toString(args) + " " + got);
        check.due(name + Arrays.toString(args), got, want);
        if (got != want) for (String line : log) System.out.println("  " + line);
    }

    private static long answer(Method m, Object on, Object[] args) throws IllegalAccessException, InvocationTargetException {
        return ((Number) m.invoke(on, args)).longValue();
    }
}
