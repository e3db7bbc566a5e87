import java.lang.reflect.InvocationTargetException;
import java.lang.reflect.Method;
import java.lang.reflect.Modifier;
import java.util.Map;
import java.util.TreeMap;

/**
 * What the Bounds..Tests share. Each of their methods stands for one sentence of the document that names a
 * boundary case, and is named after the promise (or the marked passage) and the boundary.
 */
final class Bounds {
    static final int MIN = Integer.MIN_VALUE;
    static final int MAX = Integer.MAX_VALUE;

    interface Call {
        long on(ResampledRows x);
    }

    interface Maker {
        ResampledRows make();
    }

    private Bounds() {
    }

    /** Runs every test of a class, so that none that is written is forgotten. */
    static void runAll(Class<?> tests) {
        Map<String, Method> found = new TreeMap<>();
        for (Method m : tests.getDeclaredMethods()) {
            if (m.getName().startsWith("promise") || m.getName().startsWith("passage")) {
                found.put(m.getName(), m);
            }
        }
        for (Method m : found.values()) {
            runOne(m);
        }
        Check.named("");
        Check.due(tests.getName() + " has tests", found.isEmpty() ? 0 : 1, 1);
        System.out.println(found.size() + " tests");
        Check.end();
    }

    private static void runOne(Method m) {
        Check.named(m.getName() + ": ");
        if (!Modifier.isStatic(m.getModifiers()) || m.getParameterCount() != 0) {
            Check.due("can be run", 0, 1);
            return;
        }
        try {
            m.invoke(null);
        } catch (InvocationTargetException e) {
            Check.due("threw " + e.getCause(), 0, 1);
        } catch (IllegalAccessException e) {
            Check.due("can be run: " + e, 0, 1);
        }
    }

    /** The call answers the code, and nothing changes. */
    static void refused(String call, Maker maker, Call wrong, long code) {
        ResampledRows x = maker.make();
        Check.due(call, wrong.on(x), code);
        alike(call + " changes nothing", x, maker.make());
    }

    /** Two objects whose calls went apart stand alike: all that they tell, their tables, and the draws to come. */
    static void alike(String what, ResampledRows x, ResampledRows y) {
        same(what, "evidence()", Double.doubleToLongBits(x.evidence()), Double.doubleToLongBits(y.evidence()));
        alikeCounts(what, x, y);
        for (int k = 0; k < 3; k++) {
            same(what, "told(" + k + ")", x.told(k), y.told(k));
        }
        alikeRows(what, x, y);
        alikeTables(what, x, y);
        alikeDraws(what, x, y);
    }

    private static void alikeCounts(String what, ResampledRows x, ResampledRows y) {
        for (int k = 0; k < 5; k++) {
            same(what, "count(" + k + ")", x.count(k), y.count(k));
        }
    }

    private static void alikeRows(String what, ResampledRows x, ResampledRows y) {
        int rows = Math.min(x.count(0), y.count(0));
        for (int r = 0; r < rows; r++) {
            same(what, "row(" + r + ", 0)", x.row(r, 0), y.row(r, 0));
            same(what, "row(" + r + ", 1)", x.row(r, 1), y.row(r, 1));
            same(what, "weight(" + r + ")", x.weight(r), y.weight(r));
            same(what, "from(" + r + ")", x.from(r), y.from(r));
            int places = Math.min(x.row(r, 1), y.row(r, 1));
            for (int i = 0; i < places; i++) {
                same(what, "history(" + r + ", " + i + ")", x.history(r, i), y.history(r, i));
            }
        }
    }

    /** Leaves the tables as they are in a new object. */
    private static void alikeTables(String what, ResampledRows x, ResampledRows y) {
        for (int state = 0; state < 6; state++) {
            same(what, "start(" + state + ")", x.start(state, 1), y.start(state, 1));
            same(what, "named(" + state + ")", x.named(state, 0), y.named(state, 0));
            for (int to = 0; to < 6; to++) {
                same(what, "move(" + state + ", " + to + ")", x.move(state, to, 1), y.move(state, to, 1));
            }
            for (int sight = 0; sight < 5; sight++) {
                same(what, "seen(" + sight + ", " + state + ")", x.seen(sight, state, 1), y.seen(sight, state, 1));
            }
        }
    }

    private static void alikeDraws(String what, ResampledRows x, ResampledRows y) {
        for (int k = 0; k < 3; k++) {
            same(what, "step", x.step(0, 0), y.step(0, 0));
            alikeStates(what + ", then a step", x, y);
        }
        same(what, "again(0)", x.again(0), y.again(0));
        alikeStates(what + ", then again(0)", x, y);
        for (int k = 0; k < 4 && x.count(3) > 0; k++) {
            same(what, "begin", x.begin(16, 9L), y.begin(16, 9L));
            alikeStates(what + ", then begin", x, y);
        }
    }

    private static void alikeStates(String what, ResampledRows x, ResampledRows y) {
        int rows = Math.min(x.count(0), y.count(0));
        for (int r = 0; r < rows; r++) {
            same(what, "row(" + r + ", 0)", x.row(r, 0), y.row(r, 0));
        }
    }

    private static void same(String what, String call, long got, long want) {
        Check.due(what + ": " + call, got, want);
    }

    /** A DRAW of the seed that was given, after so many that were made (from 0 on), below m. */
    static int drawOf(long seed, int made, int m) {
        long x = seed;
        for (int k = 0; k <= made; k++) {
            x = x * 6364136223846793005L + 1442695040888963407L;
        }
        return (int) ((x >>> 33) % m);
    }
}
