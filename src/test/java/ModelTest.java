import java.util.ArrayList;
import java.util.Arrays;
import java.util.Collections;
import java.util.List;

/**
 * Long runs of calls, good and wrong ones, against a second reading of the document that is written
 * without regard to room or speed: each row is an object of its own, and picks are a list that is sorted.
 */
public final class ModelTest {
    private static final int RUNS = 4000;
    private static final int CALLS = 512;

    private static final class Row {
        int state;
        long weight = 1;
        List<Integer> history = new ArrayList<>();

        Row copy() {
            Row made = new Row();
            made.state = state;
            made.history = new ArrayList<>(history);
            return made;
        }
    }

    private static final class Model {
        long[] start = {1, 1, 1, 1, 1, 1};
        long[][] move = new long[6][6];
        long[][] seen = new long[5][6];
        int[] name = new int[6];
        List<Integer> forced = new ArrayList<>();
        long x;
        List<Row> rows;
        int steps;
        int anew;
        Row kept;
        double evidence;
        List<Integer> from;

        Model() {
            for (long[] line : move) {
                Arrays.fill(line, 1);
            }
            for (long[] line : seen) {
                Arrays.fill(line, 1);
            }
        }

        long draw(long m) {
            if (!forced.isEmpty()) {
                return forced.remove(0) % m;
            }
            x = x * 6364136223846793005L + 1442695040888963407L;
            return (x >>> 33) % m;
        }

        int by(long[] weights) {
            long sum = Arrays.stream(weights).sum();
            if (sum == 0) {
                return -1;
            }
            long left = draw(sum);
            int k = 0;
            while (left >= weights[k]) {
                left -= weights[k];
                k++;
            }
            return k;
        }

        int begin(int n, long seed) {
            if (n < 0) {
                return Check.REFUSED;
            }
            if (n == 0 || n >= 17) {
                return Check.OUTSIDE;
            }
            rows = null;
            kept = null;
            from = null;
            steps = 0;
            anew = 0;
            evidence = 1.0;
            x = seed;
            List<Row> made = new ArrayList<>();
            for (int r = 0; r < n; r++) {
                int state = by(start);
                if (state < 0) {
                    return Check.LOST;
                }
                Row row = new Row();
                row.state = state;
                row.history.add(state);
                made.add(row);
            }
            rows = made;
            return n;
        }

        int step(int sight, int wanted) {
            if (rows == null) {
                return Check.GONE;
            }
            if (sight < 0 || sight > 4) {
                return Check.UNKNOWN;
            }
            if (wanted < 0 || wanted > 3) {
                return Check.OUTSIDE;
            }
            if (steps == 30 || rows.stream().anyMatch(r -> name[r.state] != wanted)) {
                return Check.GONE;
            }
            int[] to = new int[rows.size()];
            for (int r = 0; r < to.length; r++) {
                to[r] = by(move[rows.get(r).state]);
                if (to[r] < 0) {
                    return Check.LOST;
                }
            }
            for (int r = 0; r < to.length; r++) {
                if (rows.get(r).weight * seen[sight][to[r]] > 1000000) {
                    return Check.MUCH;
                }
            }
            for (int r = 0; r < to.length; r++) {
                Row row = rows.get(r);
                row.state = to[r];
                row.history.add(to[r]);
                row.weight *= seen[sight][to[r]];
            }
            return ++steps;
        }

        long[] weights() {
            return rows.stream().mapToLong(r -> r.weight).toArray();
        }

        long total() {
            return Arrays.stream(weights()).sum();
        }

        long squares() {
            return Arrays.stream(weights()).map(w -> w * w).sum();
        }

        int again(int way, int part, boolean asked) {
            if (rows == null) {
                return Check.GONE;
            }
            if (way < 0 || way > 3 || asked && (part < 1 || part > 100)) {
                return Check.OUTSIDE;
            }
            if (total() == 0) {
                return Check.LOST;
            }
            if (asked && 100 * total() * total() >= part * rows.size() * squares()) {
                return 0;
            }
            List<Integer> picked = way == 3 ? shares() : layers(way);
            Collections.sort(picked);
            int keptNumber = kept == null ? -1 : rows.indexOf(kept);
            evidence *= total() / (double) rows.size();
            List<Row> made = new ArrayList<>();
            for (int p : picked) {
                made.add(rows.get(p).copy());
            }
            kept = kept == null ? null : made.get(picked.indexOf(keptNumber));
            rows = made;
            from = picked;
            anew++;
            return (int) picked.stream().distinct().count();
        }

        List<Integer> layers(int way) {
            int n = rows.size();
            List<Integer> picked = new ArrayList<>();
            long one = way == 2 ? draw(total()) : 0;
            for (int k = 0; k < n; k++) {
                if (k == 0 && kept != null) {
                    picked.add(rows.indexOf(kept));
                } else if (way == 0) {
                    picked.add(by(weights()));
                } else {
                    long p = k * total() + (way == 2 ? one : draw(total()));
                    int r = 0;
                    long sum = rows.get(0).weight;
                    while (n * sum <= p) {
                        r++;
                        sum += rows.get(r).weight;
                    }
                    picked.add(r);
                }
            }
            return picked;
        }

        List<Integer> shares() {
            int n = rows.size();
            List<Integer> picked = new ArrayList<>();
            long[] rest = new long[n];
            for (int r = 0; r < n; r++) {
                long share = n * rows.get(r).weight;
                picked.addAll(Collections.nCopies((int) (share / total()), r));
                rest[r] = share % total();
            }
            while (picked.size() < n) {
                picked.add(by(rest));
            }
            int keptNumber = kept == null ? -1 : rows.indexOf(kept);
            if (kept != null && !picked.contains(keptNumber)) {
                Collections.sort(picked);
                picked.set(n - 1, keptNumber);
            }
            return picked;
        }
    }

    private static long chance = 20261116L;

    private static int below(int m) {
        chance = chance * 2862933555777941757L + 3037000493L;
        return (int) ((chance >>> 35) % m);
    }

    /** Mostly 0 to m - 1, at times a little or far outside of it. */
    private static int about(int m) {
        int kind = below(60);
        return kind == 0 ? -1 : kind == 1 ? m : kind == 2 ? Integer.MIN_VALUE : kind == 3 ? Integer.MAX_VALUE : below(m);
    }

    public static void main(String[] args) {
        int[] met = new int[11];
        for (int run = 0; run < RUNS; run++) {
            ResampledRows x = new ResampledRows();
            Model m = new Model();
            for (int call = 0; call < CALLS; call++) {
                int code = oneCall(x, m);
                if (code <= Check.UNKNOWN) {
                    met[-1000000 - code]++;
                }
            }
            dueAlike(x, m);
        }
        int[] codes = {Check.UNKNOWN, Check.OUTSIDE, Check.GONE, Check.LOST, Check.MUCH, Check.REFUSED};
        for (int code : codes) {
            Check.due("code " + code + " was met", met[-1000000 - code] > 0 ? 1 : 0, 1);
        }
        Check.end();
    }

    private static int oneCall(ResampledRows x, Model m) {
        switch (below(20)) {
            case 0: case 1: case 2:
                return setTable(x, m);
            case 3: {
                int n = below(12) == 0 ? about(17) : 1 + below(16);
                long seed = below(1000) - 500L;
                return same("begin", x.begin(n, seed), m.begin(n, seed));
            }
            case 4: {
                int draw = below(30) == 0 ? -1 - below(9) : below(Integer.MAX_VALUE);
                boolean taken = draw >= 0 && m.forced.size() < 64;
                if (taken) {
                    m.forced.add(draw);
                }
                return same("force", x.force(draw), taken ? m.forced.size() : Check.OUTSIDE);
            }
            case 5:
                return keepOne(x, m);
            case 6: case 7: case 8: case 9: case 10: case 11: {
                int sight = about(5);
                int name = below(20) == 0 ? about(4) : m.rows == null ? 0 : m.name[m.rows.get(0).state];
                return same("step", x.step(sight, name), m.step(sight, name));
            }
            case 12: {
                int way = about(4);
                int got = same("again", x.again(way), m.again(way, 0, false));
                dueAlike(x, m);
                return got;
            }
            case 13: {
                int way = about(4);
                int part = about(101);
                int got = same("rule", x.rule(way, part), m.again(way, part, true));
                dueAlike(x, m);
                return got;
            }
            case 14: case 15:
                return writeOne(x, m);
            case 16:
                if (below(40) != 0) {
                    return 0;
                }
                return clearAll(x, m);
            default:
                dueCounts(x, m);
                return 0;
        }
    }

    private static int clearAll(ResampledRows x, Model m) {
        int rows = m.rows == null ? 0 : m.rows.size();
        Model fresh = new Model();
        m.start = fresh.start;
        m.move = fresh.move;
        m.seen = fresh.seen;
        m.name = fresh.name;
        m.forced = fresh.forced;
        m.rows = null;
        m.kept = null;
        m.from = null;
        m.steps = 0;
        m.anew = 0;
        return same("clear", x.clear(), rows);
    }

    private static int setTable(ResampledRows x, Model m) {
        int a = about(6);
        int b = about(6);
        int w = below(3) == 0 ? 0 : about(10);
        boolean goodA = a >= 0 && a < 6;
        boolean goodB = b >= 0 && b < 6;
        boolean goodW = w >= 0 && w < 10;
        switch (below(4)) {
            case 0:
                return same("start", x.start(a, w), goodA ? set(m.start, a, w, goodW) : Check.UNKNOWN);
            case 1:
                return same("move", x.move(a, b, w), goodA && goodB ? set(m.move[a], b, w, goodW) : Check.UNKNOWN);
            case 2:
                return same("seen", x.seen(a, b, w),
                    goodA && a != 5 && goodB ? set(m.seen[a], b, w, goodW) : Check.UNKNOWN);
            default: {
                int name = below(4) == 0 ? about(4) : 0;
                int want = !goodA ? Check.UNKNOWN : name < 0 || name > 3 ? Check.OUTSIDE : m.name[a];
                if (want >= 0) {
                    m.name[a] = name;
                }
                return same("named", x.named(a, name), want);
            }
        }
    }

    private static int set(long[] line, int place, int w, boolean good) {
        if (!good) {
            return Check.OUTSIDE;
        }
        int was = (int) line[place];
        line[place] = w;
        return was;
    }

    private static int keepOne(ResampledRows x, Model m) {
        int row = below(3) == 0 ? Check.NONE : about(m.rows == null ? 4 : m.rows.size());
        int want;
        if (m.rows == null) {
            want = Check.GONE;
        } else if (row != Check.NONE && (row < 0 || row >= m.rows.size())) {
            want = Check.UNKNOWN;
        } else {
            want = m.kept == null ? Check.NONE : m.rows.indexOf(m.kept);
            m.kept = row == Check.NONE ? null : m.rows.get(row);
        }
        return same("keep", x.keep(row), want);
    }

    private static int writeOne(ResampledRows x, Model m) {
        int row = about(m.rows == null ? 4 : m.rows.size());
        int i = about(m.steps + 1);
        int state = about(6);
        int want;
        if (m.rows == null) {
            want = Check.GONE;
        } else if (row < 0 || row >= m.rows.size() || state < 0 || state > 5) {
            want = Check.UNKNOWN;
        } else if (i < 0 || i > m.steps) {
            want = Check.OUTSIDE;
        } else {
            want = 1;
            m.rows.get(row).history.set(i, state);
        }
        return same("write", x.write(row, i, state), want);
    }

    private static void dueCounts(ResampledRows x, Model m) {
        Check.due("count(0)", x.count(0), m.rows == null ? 0 : m.rows.size());
        Check.due("count(1)", x.count(1), m.steps);
        Check.due("count(2)", x.count(2), m.anew);
        Check.due("count(3)", x.count(3), m.forced.size());
        Check.due("count(4)", x.count(4), m.kept == null ? Check.NONE : m.rows.indexOf(m.kept));
    }

    private static void dueAlike(ResampledRows x, Model m) {
        dueCounts(x, m);
        if (m.rows == null) {
            Check.due("told(0)", x.told(0), Check.GONE);
            Check.dueDouble("evidence()", x.evidence(), 0.0);
            return;
        }
        Check.due("told(0)", x.told(0), m.total());
        Check.due("told(1)", x.told(1), m.squares());
        Check.due("told(2)", x.told(2), m.squares() == 0 ? 0 : m.total() * m.total() / m.squares());
        Check.dueDouble("evidence()", x.evidence(), m.evidence * (m.total() / (double) m.rows.size()));
        for (int r = 0; r < m.rows.size(); r++) {
            Row row = m.rows.get(r);
            Check.due("row(r, 0)", x.row(r, 0), row.state);
            Check.due("row(r, 1)", x.row(r, 1), row.history.size());
            Check.due("weight(r)", x.weight(r), row.weight);
            Check.due("from(r)", x.from(r), m.from == null ? Check.UNKNOWN : m.from.get(r));
            for (int i = 0; i < row.history.size(); i++) {
                Check.due("history(r, i)", x.history(r, i), row.history.get(i));
            }
        }
    }

    private static int same(String call, int got, int want) {
        Check.due(call, got, want);
        return got;
    }
}
