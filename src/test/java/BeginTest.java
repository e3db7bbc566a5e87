/** Promises 6 and 7: force, begin; and a draw. */
public final class BeginTest {
    public static void main(String[] args) {
        forcedOnesComeInOrder();
        forcedOnesHaveABound();
        forcedRingGoesRound();
        drawsFollowTheSeed();
        drawsGoByWeights();
        beginKeepsItsBounds();
        beginMakesARunAnew();
        beginIsLost();
        Check.end();
    }

    private static void forcedOnesComeInOrder() {
        ResampledRows x = new ResampledRows();
        Check.due("force(-1)", x.force(-1), Check.OUTSIDE);
        Check.due("force(min)", x.force(Integer.MIN_VALUE), Check.OUTSIDE);
        Check.due("force(4)", x.force(4), 1);
        Check.due("force(0)", x.force(0), 2);
        Check.due("force(9)", x.force(9), 3);
        Check.due("force(max)", x.force(Integer.MAX_VALUE), 4);
        Check.due("force(5)", x.force(5), 5);
        Check.due("begin(4, 1)", x.begin(4, 1L), 4);
        Check.dueStates("forced, modulo 6", x, 4, 0, 3, 1);
        Check.due("one is left as it is", x.count(3), 1);
        Check.due("begin(1, 1)", x.begin(1, 1L), 1);
        Check.dueStates("the one left", x, 5);
        Check.due("none is left", x.count(3), 0);
    }

    private static void forcedOnesHaveABound() {
        ResampledRows x = new ResampledRows();
        for (int k = 1; k <= 64; k++) {
            Check.due("force " + k, x.force(k % 6), k);
        }
        Check.due("the 65th", x.force(2), Check.OUTSIDE);
        Check.due("64 are left", x.count(3), 64);
        Check.due("begin(1, 1)", x.begin(1, 1L), 1);
        Check.dueStates("the first one", x, 1);
        Check.due("63 are left", x.count(3), 63);
        Check.due("the 64th again", x.force(2), 64);
        Check.due("the 65th again", x.force(2), Check.OUTSIDE);
    }

    private static void forcedRingGoesRound() {
        ResampledRows x = new ResampledRows();
        int put = 0;
        int taken = 0;
        for (int round = 0; round < 10; round++) {
            for (int k = 0; k < 16; k++) {
                x.force(put * put % 6);
                put++;
            }
            x.begin(round == 0 ? 9 : 16, 1L);
            for (int r = 0; r < x.count(0); r++) {
                Check.due("forced one " + taken, x.row(r, 0), taken * taken % 6);
                taken++;
            }
        }
        Check.due("left behind", x.count(3), put - taken);
    }

    private static void drawsFollowTheSeed() {
        long[] seeds = {0L, 1L, -1L, 7L, Long.MIN_VALUE, Long.MAX_VALUE, 123456789012345L};
        for (long seed : seeds) {
            ResampledRows x = new ResampledRows();
            x.force(3);
            x.begin(16, seed);
            long chain = seed;
            Check.due("a forced draw leaves the chain", x.row(0, 0), 3);
            for (int r = 1; r < 16; r++) {
                chain = chain * 6364136223846793005L + 1442695040888963407L;
                Check.due("seed " + seed + " row " + r, x.row(r, 0), (chain >>> 33) % 6);
            }
            x.step(0, 0);
            for (int r = 0; r < 16; r++) {
                chain = chain * 6364136223846793005L + 1442695040888963407L;
                Check.due("seed " + seed + " moved row " + r, x.row(r, 0), (chain >>> 33) % 6);
            }
        }
    }

    private static void drawsGoByWeights() {
        ResampledRows x = new ResampledRows();
        int[] weights = {0, 2, 0, 3, 1, 0};
        for (int state = 0; state < 6; state++) {
            x.start(state, weights[state]);
        }
        Check.force(x, 0, 1, 2, 3, 4, 5, 6, 11);
        x.begin(8, 0L);
        Check.dueStates("by weights 0 2 0 3 1 0", x, 1, 1, 3, 3, 3, 4, 1, 4);
    }

    private static void beginKeepsItsBounds() {
        ResampledRows x = Check.standing(1, 2, 3);
        x.force(4);
        x.keep(1);
        Check.due("begin(0)", x.begin(0, 1L), Check.OUTSIDE);
        Check.due("begin(17)", x.begin(17, 1L), Check.OUTSIDE);
        Check.due("begin(max)", x.begin(Integer.MAX_VALUE, 1L), Check.OUTSIDE);
        Check.due("begin(-1)", x.begin(-1, 1L), Check.REFUSED);
        Check.due("begin(min)", x.begin(Integer.MIN_VALUE, 1L), Check.REFUSED);
        Check.due("the run stands", x.count(0), 3);
        Check.dueStates("the run stands", x, 1, 2, 3);
        Check.due("the kept one stands", x.count(4), 1);
        Check.due("the forced one stands", x.count(3), 1);
        Check.due("begin(16)", x.begin(16, 1L), 16);
        Check.due("begin(1)", x.begin(1, 1L), 1);
        for (int state = 0; state < 6; state++) {
            x.start(state, 0);
        }
        Check.due("begin(0), no starts", x.begin(0, 1L), Check.OUTSIDE);
        Check.due("begin(-1), no starts", x.begin(-1, 1L), Check.REFUSED);
        Check.due("the run still stands", x.count(0), 1);
    }

    private static void beginMakesARunAnew() {
        ResampledRows x = Check.weighed(1, 2, 3);
        x.keep(2);
        x.again(2);
        x.step(0, 0);
        Check.due("begin(2, 5)", x.begin(2, 5L), 2);
        Check.due("rows", x.count(0), 2);
        Check.due("steps", x.count(1), 0);
        Check.due("drawn anew", x.count(2), 0);
        Check.due("kept", x.count(4), Check.NONE);
        Check.due("weight(0)", x.weight(0), 1);
        Check.due("weight(1)", x.weight(1), 1);
        Check.due("row(1, 1)", x.row(1, 1), 1);
        Check.due("history(1, 0)", x.history(1, 0), x.row(1, 0));
        Check.due("from(0)", x.from(0), Check.UNKNOWN);
        Check.dueDouble("evidence()", x.evidence(), 1.0);
    }

    private static void beginIsLost() {
        ResampledRows x = Check.standing(1, 2, 3);
        x.keep(1);
        Check.force(x, 4, 5);
        for (int state = 0; state < 6; state++) {
            x.start(state, 0);
        }
        Check.due("begin without starts", x.begin(2, 1L), Check.LOST);
        Check.due("no run", x.count(0), 0);
        Check.due("no steps", x.count(1), 0);
        Check.due("none kept", x.count(4), Check.NONE);
        Check.due("no draw was made", x.count(3), 2);
        Check.due("row(0, 0)", x.row(0, 0), Check.GONE);
        Check.dueDouble("evidence()", x.evidence(), 0.0);
        x.start(3, 1);
        Check.due("begin with one start", x.begin(2, 1L), 2);
        Check.dueStates("one start", x, 3, 3);
        Check.due("both were drawn", x.count(3), 0);
    }
}
