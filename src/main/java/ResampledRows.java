/** Many runs of a chain in step, drawn anew by their weights; ../shared/DOC.md says what each call promises. */
public final class ResampledRows {
    public static final int UNKNOWN = -1000001, OUTSIDE = -1000002, GONE = -1000003, LOST = -1000004, MUCH = -1000005, NONE = -1000009;

    private static final int REFUSED = -1000010;
    private static final int STATES = 6;
    private static final int SIGHTS = 5;
    private static final int NAMES = 4;
    private static final int WAYS = 4;
    private static final int MOST_IN_TABLE = 9;
    private static final int MOST_FORCED = 64;
    private static final int MOST_ROWS = 16;
    private static final int MOST_STEPS = 30;
    private static final int MOST_WEIGHT = 1000000;
    private static final int WHOLE_PART = 100;
    private static final int NOT_DRAWN = -1;

    private final Tables tables;
    private final Draws draws;
    private final Run run;
    private final Picks picks;

    public ResampledRows() {
        tables = new Tables();
        draws = new Draws();
        run = new Run();
        picks = new Picks();
    }

    public int start(int state, int w) {
        if (!isBelow(state, STATES)) {
            return UNKNOWN;
        }
        if (!isBelow(w, MOST_IN_TABLE + 1)) {
            return OUTSIDE;
        }
        int was = tables.starts[state];
        tables.starts[state] = w;
        return was;
    }

    public int move(int from, int to, int w) {
        if (!isBelow(from, STATES) || !isBelow(to, STATES)) {
            return UNKNOWN;
        }
        if (!isBelow(w, MOST_IN_TABLE + 1)) {
            return OUTSIDE;
        }
        int was = tables.moves[from][to];
        tables.moves[from][to] = w;
        return was;
    }

    public int seen(int sight, int state, int w) {
        if (!isBelow(sight, SIGHTS) || !isBelow(state, STATES)) {
            return UNKNOWN;
        }
        if (!isBelow(w, MOST_IN_TABLE + 1)) {
            return OUTSIDE;
        }
        int was = tables.sights[sight][state];
        tables.sights[sight][state] = w;
        return was;
    }

    public int named(int state, int name) {
        if (!isBelow(state, STATES)) {
            return UNKNOWN;
        }
        if (!isBelow(name, NAMES)) {
            return OUTSIDE;
        }
        int was = tables.names[state];
        tables.names[state] = name;
        return was;
    }

    public int force(int draw) {
        if (draw < 0 || draws.left >= MOST_FORCED) {
            return OUTSIDE;
        }
        draws.putBehind(draw);
        return draws.left;
    }

    public int begin(int n, long seed) {
        if (n < 0) {
            return REFUSED;
        }
        if (n == 0 || n > MOST_ROWS) {
            return OUTSIDE;
        }
        draws.x = seed;
        return run.open(n, tables, draws) ? n : LOST;
    }

    public int keep(int row) {
        if (run.size == 0) {
            return GONE;
        }
        if (row != NONE && !isBelow(row, run.size)) {
            return UNKNOWN;
        }
        int was = run.kept;
        run.kept = row;
        return was;
    }

    public int step(int sight, int name) {
        if (run.size == 0) {
            return GONE;
        }
        if (!isBelow(sight, SIGHTS)) {
            return UNKNOWN;
        }
        if (!isBelow(name, NAMES)) {
            return OUTSIDE;
        }
        if (run.steps >= MOST_STEPS || !run.allStandAt(name, tables)) {
            return GONE;
        }
        if (!run.drawMoves(tables, draws)) {
            return LOST;
        }
        if (!run.weighMoves(tables.sights[sight])) {
            return MUCH;
        }
        run.takeMoves();
        return run.steps;
    }

    public int again(int way) {
        if (run.size == 0) {
            return GONE;
        }
        if (!isBelow(way, WAYS)) {
            return OUTSIDE;
        }
        if (run.total() == 0) {
            return LOST;
        }
        return drawAnew(way);
    }

    public int rule(int way, int part) {
        if (run.size == 0) {
            return GONE;
        }
        if (!isBelow(way, WAYS) || part < 1 || part > WHOLE_PART) {
            return OUTSIDE;
        }
        if (run.total() == 0) {
            return LOST;
        }
        return run.isEffectiveBelow(part) ? drawAnew(way) : 0;
    }

    public int from(int k) {
        if (run.size == 0) {
            return GONE;
        }
        if (run.drawings == 0 || !isBelow(k, run.size)) {
            return UNKNOWN;
        }
        return run.origins[k];
    }

    public int row(int row, int what) {
        if (run.size == 0) {
            return GONE;
        }
        if (!isBelow(row, run.size)) {
            return UNKNOWN;
        }
        switch (what) {
            case 0:
                return run.states[row];
            case 1:
                return run.historyLength();
            default:
                return OUTSIDE;
        }
    }

    public long weight(int row) {
        if (run.size == 0) {
            return GONE;
        }
        if (!isBelow(row, run.size)) {
            return UNKNOWN;
        }
        return run.weights[row];
    }

    public int history(int row, int i) throws ArrayIndexOutOfBoundsException {
        if (run.size == 0) {
            return GONE;
        }
        if (!isBelow(row, run.size)) {
            return UNKNOWN;
        }
        if (!isBelow(i, run.historyLength())) {
            throw new ArrayIndexOutOfBoundsException();
        }
        return run.histories[row][i];
    }

    public int write(int row, int i, int state) {
        if (run.size == 0) {
            return GONE;
        }
        if (!isBelow(row, run.size) || !isBelow(state, STATES)) {
            return UNKNOWN;
        }
        if (!isBelow(i, run.historyLength())) {
            return OUTSIDE;
        }
        run.histories[row][i] = state;
        return 1;
    }

    public long told(int what) {
        if (run.size == 0) {
            return GONE;
        }
        switch (what) {
            case 0:
                return run.total();
            case 1:
                return run.squares();
            case 2:
                return run.effective();
            default:
                return OUTSIDE;
        }
    }

    public double evidence() {
        return run.size == 0 ? 0.0 : run.product * run.meanWeight();
    }

    public int count(int what) {
        switch (what) {
            case 0:
                return run.size;
            case 1:
                return run.steps;
            case 2:
                return run.drawings;
            case 3:
                return draws.left;
            case 4:
                return run.kept;
            default:
                return OUTSIDE;
        }
    }

    public int clear() {
        int rows = run.size;
        tables.reset();
        draws.reset();
        run.close();
        return rows;
    }

    private static boolean isBelow(int number, int bound) {
        return number >= 0 && number < bound;
    }

    private int drawAnew(int way) {
        picks.choose(way, run, draws);
        run.becomePicked(picks.times);
        return picks.unlike();
    }

    private static final class Tables {
        final int[] starts = new int[STATES];
        final int[][] moves = new int[STATES][STATES];
        final int[][] sights = new int[SIGHTS][STATES];
        final int[] names = new int[STATES];

        Tables() {
            reset();
        }

        void reset() {
            for (int state = 0; state < STATES; state++) {
                starts[state] = 1;
                names[state] = 0;
                for (int to = 0; to < STATES; to++) {
                    moves[state][to] = 1;
                }
                for (int sight = 0; sight < SIGHTS; sight++) {
                    sights[sight][state] = 1;
                }
            }
        }
    }

    private static final class Draws {
        long x;
        // The forced ones stand in a ring, so that none is moved when the first one goes.
        final int[] forced = new int[MOST_FORCED];
        int first;
        int left;

        Draws() {
            reset();
        }

        void reset() {
            x = 0L;
            first = 0;
            left = 0;
        }

        void putBehind(int draw) {
            forced[(first + left) % MOST_FORCED] = draw;
            left++;
        }

        int below(int m) {
            if (m < 1) {
                return 0;
            }
            if (left > 0) {
                int draw = forced[first];
                first = (first + 1) % MOST_FORCED;
                left--;
                return draw % m;
            }
            x = x * 6364136223846793005L + 1442695040888963407L;
            return (int) ((x >>> 33) % m);
        }

        /** NOT_DRAWN, without a draw, if the weights are 0 all together. */
        int byWeights(int[] weights, int n) {
            int sum = 0;
            for (int k = 0; k < n; k++) {
                sum += weights[k];
            }
            if (sum < 1) {
                return NOT_DRAWN;
            }
            int draw = below(sum);
            int reached = 0;
            for (int k = 0; k < n; k++) {
                reached += weights[k];
                if (reached > draw) {
                    return k;
                }
            }
            return NOT_DRAWN;
        }
    }

    private static final class Run {
        // 0: there is no RUN.
        int size;
        int steps;
        int drawings;
        int kept;
        double product;
        final int[] origins = new int[MOST_ROWS];
        int[] states = new int[MOST_ROWS];
        int[] weights = new int[MOST_ROWS];
        int[][] histories = new int[MOST_ROWS][MOST_STEPS + 1];
        // What is to come is made in these first, so that a step that fails has changed nothing.
        int[] nextStates = new int[MOST_ROWS];
        int[] nextWeights = new int[MOST_ROWS];
        int[][] nextHistories = new int[MOST_ROWS][MOST_STEPS + 1];

        Run() {
            close();
        }

        void close() {
            size = 0;
            steps = 0;
            drawings = 0;
            kept = NONE;
            product = 1.0;
        }

        /** False, and there is no run, if the starts are 0 all together. */
        boolean open(int n, Tables tables, Draws draws) {
            close();
            for (int r = 0; r < n; r++) {
                int state = draws.byWeights(tables.starts, STATES);
                if (state == NOT_DRAWN) {
                    return false;
                }
                states[r] = state;
                weights[r] = 1;
                histories[r][0] = state;
            }
            size = n;
            return true;
        }

        boolean hasKept() {
            return isBelow(kept, size);
        }

        // All rows go in step, and one drawn anew takes the history of another, so all are of one length.
        int historyLength() {
            return steps + 1;
        }

        boolean allStandAt(int name, Tables tables) {
            for (int r = 0; r < size; r++) {
                if (tables.names[states[r]] != name) {
                    return false;
                }
            }
            return true;
        }

        boolean drawMoves(Tables tables, Draws draws) {
            for (int r = 0; r < size; r++) {
                int state = draws.byWeights(tables.moves[states[r]], STATES);
                if (state == NOT_DRAWN) {
                    return false;
                }
                nextStates[r] = state;
            }
            return true;
        }

        boolean weighMoves(int[] seenInStates) {
            for (int r = 0; r < size; r++) {
                int weighed = weights[r] * seenInStates[nextStates[r]];
                if (weighed > MOST_WEIGHT) {
                    return false;
                }
                nextWeights[r] = weighed;
            }
            return true;
        }

        void takeMoves() {
            steps++;
            for (int r = 0; r < size; r++) {
                states[r] = nextStates[r];
                weights[r] = nextWeights[r];
                histories[r][steps] = nextStates[r];
            }
        }

        // At most 16 weights of at most 1000000: times 16 it still is an int.
        int total() {
            int sum = 0;
            for (int r = 0; r < size; r++) {
                sum += weights[r];
            }
            return sum;
        }

        long squares() {
            long sum = 0L;
            for (int r = 0; r < size; r++) {
                sum += (long) weights[r] * weights[r];
            }
            return sum;
        }

        long effective() {
            long total = total();
            long squares = squares();
            return squares == 0L ? 0L : total * total / squares;
        }

        boolean isEffectiveBelow(int part) {
            long total = total();
            return WHOLE_PART * total * total < part * size * squares();
        }

        double meanWeight() {
            return size == 0 ? 0.0 : total() / (double) size;
        }

        /** The first row r for which size (w0 + .. + wr) is above p. */
        int firstAbove(int p) {
            int reached = 0;
            for (int r = 0; r < size; r++) {
                reached += size * weights[r];
                if (reached > p) {
                    return r;
                }
            }
            return NOT_DRAWN;
        }

        void becomePicked(int[] times) {
            product = product * meanWeight();
            noteOrigins(times);
            int newKept = NONE;
            for (int k = size - 1; k >= 0; k--) {
                copyToNext(origins[k], k);
                if (origins[k] == kept) {
                    newKept = k;
                }
            }
            kept = newKept;
            takeNext();
            drawings++;
        }

        // Counts of each row, read from row 0 on, are the picks in the order of their numbers.
        private void noteOrigins(int[] times) {
            int k = 0;
            for (int r = 0; r < size; r++) {
                for (int copy = 0; copy < times[r] && k < size; copy++) {
                    origins[k] = r;
                    k++;
                }
            }
        }

        private void copyToNext(int origin, int k) {
            nextStates[k] = states[origin];
            nextWeights[k] = 1;
            System.arraycopy(histories[origin], 0, nextHistories[k], 0, historyLength());
        }

        private void takeNext() {
            int[] oldStates = states;
            states = nextStates;
            nextStates = oldStates;
            int[] oldWeights = weights;
            weights = nextWeights;
            nextWeights = oldWeights;
            int[][] oldHistories = histories;
            histories = nextHistories;
            nextHistories = oldHistories;
        }
    }

    private static final class Picks {
        final int[] times = new int[MOST_ROWS];
        private final int[] remainders = new int[MOST_ROWS];

        /** Fills times: how often each row is picked; the run's weights are not 0 all together. */
        void choose(int way, Run run, Draws draws) {
            for (int r = 0; r < MOST_ROWS; r++) {
                times[r] = 0;
            }
            switch (way) {
                case 0:
                    chooseEach(run, draws);
                    break;
                case 1:
                    chooseByLayers(run, draws);
                    break;
                case 2:
                    chooseByOneDraw(run, draws);
                    break;
                default:
                    chooseByShares(run, draws);
                    break;
            }
        }

        int unlike() {
            int found = 0;
            for (int r = 0; r < MOST_ROWS; r++) {
                if (times[r] > 0) {
                    found++;
                }
            }
            return found;
        }

        private void chooseEach(Run run, Draws draws) {
            for (int k = pickKeptFirst(run); k < run.size; k++) {
                pick(draws.byWeights(run.weights, run.size));
            }
        }

        private void chooseByLayers(Run run, Draws draws) {
            int total = run.total();
            for (int k = pickKeptFirst(run); k < run.size; k++) {
                pick(run.firstAbove(k * total + draws.below(total)));
            }
        }

        private void chooseByOneDraw(Run run, Draws draws) {
            int total = run.total();
            int draw = draws.below(total);
            for (int k = pickKeptFirst(run); k < run.size; k++) {
                pick(run.firstAbove(k * total + draw));
            }
        }

        private void chooseByShares(Run run, Draws draws) {
            int total = run.total();
            if (total < 1) {
                return;
            }
            int left = run.size;
            for (int r = 0; r < run.size; r++) {
                int share = run.size * run.weights[r];
                times[r] = share / total;
                remainders[r] = share % total;
                left -= times[r];
            }
            for (int k = 0; k < left; k++) {
                pick(draws.byWeights(remainders, run.size));
            }
            if (run.hasKept() && times[run.kept] == 0) {
                unpickLast(run.size);
                pick(run.kept);
            }
        }

        /** How many picks are made by that: 0 or 1. */
        private int pickKeptFirst(Run run) {
            if (!run.hasKept()) {
                return 0;
            }
            pick(run.kept);
            return 1;
        }

        private void pick(int r) {
            if (isBelow(r, MOST_ROWS)) {
                times[r]++;
            }
        }

        private void unpickLast(int size) {
            for (int r = size - 1; r >= 0; r--) {
                if (times[r] > 0) {
                    times[r]--;
                    return;
                }
            }
        }
    }
}
