/** Promises 1 to 5 and 20: a new object, start, move, seen, named, clear. */
public final class TablesTest {
    private static final int[] BAD_STATES = {-1, 6, Integer.MIN_VALUE, Integer.MAX_VALUE};
    private static final int[] BAD_WEIGHTS = {-1, 10, Integer.MIN_VALUE, Integer.MAX_VALUE};

    public static void main(String[] args) {
        dueAsAtFirst("a new object", new ResampledRows());
        startKeepsItsBounds();
        moveKeepsItsBounds();
        seenKeepsItsBounds();
        namedKeepsItsBounds();
        tablesStandThroughARun();
        clearForgetsAll();
        Check.end();
    }

    /** Sets every place of the tables to what it should be already. */
    private static void dueAsAtFirst(String who, ResampledRows x) {
        for (int what = 0; what < 4; what++) {
            Check.due(who + ": count(" + what + ")", x.count(what), 0);
        }
        Check.due(who + ": count(4)", x.count(4), Check.NONE);
        Check.dueDouble(who + ": evidence()", x.evidence(), 0.0);
        Check.due(who + ": row(0, 0)", x.row(0, 0), Check.GONE);
        for (int state = 0; state < 6; state++) {
            Check.due(who + ": start", x.start(state, 1), 1);
            Check.due(who + ": named", x.named(state, 0), 0);
            for (int to = 0; to < 6; to++) {
                Check.due(who + ": move", x.move(state, to, 1), 1);
            }
            for (int sight = 0; sight < 5; sight++) {
                Check.due(who + ": seen", x.seen(sight, state, 1), 1);
            }
        }
    }

    private static void startKeepsItsBounds() {
        ResampledRows x = new ResampledRows();
        Check.due("start(5, 9)", x.start(5, 9), 1);
        Check.due("start(5, 0)", x.start(5, 0), 9);
        Check.due("start(0, 3)", x.start(0, 3), 1);
        for (int bad : BAD_STATES) {
            Check.due("start of no state", x.start(bad, 1), Check.UNKNOWN);
            Check.due("start of no state, no weight", x.start(bad, 10), Check.UNKNOWN);
        }
        for (int bad : BAD_WEIGHTS) {
            Check.due("start of no weight", x.start(5, bad), Check.OUTSIDE);
        }
        Check.due("start(5, 1)", x.start(5, 1), 0);
        Check.due("start(0, 1)", x.start(0, 1), 3);
    }

    private static void moveKeepsItsBounds() {
        ResampledRows x = new ResampledRows();
        Check.due("move(0, 5, 9)", x.move(0, 5, 9), 1);
        Check.due("move(5, 0, 0)", x.move(5, 0, 0), 1);
        for (int bad : BAD_STATES) {
            Check.due("move from no state", x.move(bad, 5, 1), Check.UNKNOWN);
            Check.due("move to no state", x.move(5, bad, 1), Check.UNKNOWN);
            Check.due("move to no state, no weight", x.move(0, bad, -1), Check.UNKNOWN);
        }
        for (int bad : BAD_WEIGHTS) {
            Check.due("move of no weight", x.move(0, 5, bad), Check.OUTSIDE);
        }
        Check.due("move(0, 5, 1)", x.move(0, 5, 1), 9);
        Check.due("move(5, 0, 1)", x.move(5, 0, 1), 0);
    }

    private static void seenKeepsItsBounds() {
        ResampledRows x = new ResampledRows();
        Check.due("seen(4, 5, 9)", x.seen(4, 5, 9), 1);
        Check.due("seen(0, 4, 0)", x.seen(0, 4, 0), 1);
        for (int bad : BAD_STATES) {
            Check.due("seen in no state", x.seen(4, bad, 1), Check.UNKNOWN);
            Check.due("seen of no sight", x.seen(bad, 4, 1), Check.UNKNOWN);
        }
        Check.due("seen(5, 0, 1)", x.seen(5, 0, 1), Check.UNKNOWN);
        Check.due("seen(5, 0, 10)", x.seen(5, 0, 10), Check.UNKNOWN);
        Check.due("seen(0, 6, 10)", x.seen(0, 6, 10), Check.UNKNOWN);
        for (int bad : BAD_WEIGHTS) {
            Check.due("seen of no weight", x.seen(4, 5, bad), Check.OUTSIDE);
        }
        Check.due("seen(4, 5, 1)", x.seen(4, 5, 1), 9);
        Check.due("seen(0, 4, 1)", x.seen(0, 4, 1), 0);
    }

    private static void namedKeepsItsBounds() {
        ResampledRows x = new ResampledRows();
        Check.due("named(5, 3)", x.named(5, 3), 0);
        Check.due("named(5, 2)", x.named(5, 2), 3);
        for (int bad : BAD_STATES) {
            Check.due("named of no state", x.named(bad, 0), Check.UNKNOWN);
            Check.due("named of no state, no name", x.named(bad, 4), Check.UNKNOWN);
        }
        Check.due("named(5, 4)", x.named(5, 4), Check.OUTSIDE);
        Check.due("named(5, -1)", x.named(5, -1), Check.OUTSIDE);
        Check.due("named(5, 0)", x.named(5, 0), 2);
        Check.due("named(4, 0)", x.named(4, 0), 0);
    }

    private static void tablesStandThroughARun() {
        ResampledRows x = new ResampledRows();
        x.start(1, 4);
        x.move(2, 3, 5);
        x.seen(3, 4, 6);
        x.named(5, 2);
        x.begin(3, 9L);
        x.step(0, 0);
        x.again(0);
        x.begin(2, 8L);
        Check.due("start stands", x.start(1, 4), 4);
        Check.due("move stands", x.move(2, 3, 5), 5);
        Check.due("seen stands", x.seen(3, 4, 6), 6);
        Check.due("named stands", x.named(5, 2), 2);
    }

    private static void clearForgetsAll() {
        ResampledRows x = new ResampledRows();
        Check.due("clear() of a new one", x.clear(), 0);
        for (int state = 0; state < 6; state++) {
            x.start(state, 2);
            x.named(state, 3);
            for (int to = 0; to < 6; to++) {
                x.move(state, to, 3);
            }
            for (int sight = 0; sight < 5; sight++) {
                x.seen(sight, state, 4);
            }
        }
        x.begin(7, 3L);
        x.keep(4);
        x.step(1, 3);
        x.again(1);
        x.force(5);
        x.force(6);
        Check.due("clear()", x.clear(), 7);
        dueAsAtFirst("a cleared object", x);
        Check.due("force(3) behind clear()", x.force(3), 1);
        Check.due("begin(1, 0)", x.begin(1, 0L), 1);
        Check.due("its state", x.row(0, 0), 3);
        Check.due("from(0)", x.from(0), Check.UNKNOWN);
        Check.due("clear() of one row", x.clear(), 1);
        Check.due("clear() again", x.clear(), 0);
    }
}
