/** What the tests share: an answer against the one that is due, and the end of a test. */
final class Check {
    static final int UNKNOWN = -1000001;
    static final int OUTSIDE = -1000002;
    static final int GONE = -1000003;
    static final int LOST = -1000004;
    static final int MUCH = -1000005;
    static final int NONE = -1000009;
    static final int REFUSED = -1000010;

    private static int wrong = 0;
    private static String test = "";

    private Check() {
    }

    /** What is printed before each wrong answer from now on. */
    static void named(String name) {
        test = name;
    }

    static void due(String call, long got, long want) {
        if (got != want) {
            tell(call + " answered " + got + ", due is " + want);
        }
    }

    static void dueDouble(String call, double got, double want) {
        if (Double.compare(got, want) != 0) {
            tell(call + " answered " + got + ", due is " + want);
        }
    }

    private static void tell(String fault) {
        wrong++;
        System.out.println(test + fault);
    }

    static void dueThrow(String call, ResampledRows x, int row, int i) {
        try {
            int got = x.history(row, i);
            tell(call + " answered " + got + ", due is ArrayIndexOutOfBoundsException");
        } catch (ArrayIndexOutOfBoundsException e) {
            if (e.getClass() != ArrayIndexOutOfBoundsException.class || thrownByMachine(e)) {
                tell(call + " was thrown by the machine: " + e);
            }
        }
    }

    /** The machine always writes a text of its own; the class throws without one. */
    private static boolean thrownByMachine(RuntimeException e) {
        return e.getMessage() != null;
    }

    static void force(ResampledRows x, int... draws) {
        for (int draw : draws) {
            if (x.force(draw) < 1) {
                due("force(" + draw + ") is taken", 0, 1);
            }
        }
    }

    /** A RUN whose ROWS stand in the STATES told. */
    static ResampledRows standing(int... states) {
        ResampledRows x = new ResampledRows();
        force(x, states);
        due("begin", x.begin(states.length, 1L), states.length);
        return x;
    }

    /** A RUN after one STEP, whose ROWS have the WEIGHTS told (0 to 5), each in the STATE of that number. */
    static ResampledRows weighed(int... weights) {
        ResampledRows x = standing(new int[weights.length]);
        for (int w = 0; w < 6; w++) {
            due("seen", x.seen(0, w, w), 1);
        }
        force(x, weights);
        due("step", x.step(0, 0), 1);
        return x;
    }

    static void dueFrom(String after, ResampledRows x, int... want) {
        for (int k = 0; k < want.length; k++) {
            due(after + ": from(" + k + ")", x.from(k), want[k]);
        }
        due(after + ": rows", x.count(0), want.length);
    }

    static void dueStates(String after, ResampledRows x, int... want) {
        for (int r = 0; r < want.length; r++) {
            due(after + ": row(" + r + ", 0)", x.row(r, 0), want[r]);
        }
    }

    static void end() {
        System.out.println(wrong == 0 ? "all answers are as due" : wrong + " answers are not as due");
        if (wrong != 0) {
            System.exit(1);
        }
    }
}
