/** Promises 8 and 10 to 12: keep, again, rule, from. */
public final class AnewTest {
    public static void main(String[] args) {
        keepTellsWhatWasKept();
        againTellsCodesInOrder();
        wayZeroPicksEach();
        wayOnePicksByLayers();
        wayTwoPicksByOneDraw();
        wayThreePicksByShares();
        keptRowIsPickedFirst();
        keptRowTakesTheLastPlace();
        keptRowFollowsItsFirstLike();
        rowsBecomeAllThatWasPicked();
        heaviestRowsAreDrawn();
        ruleAsksForEffectiveCounts();
        ruleTellsCodesInOrder();
        fromTellsTheLatest();
        Check.end();
    }

    private static void keepTellsWhatWasKept() {
        ResampledRows x = new ResampledRows();
        Check.due("keep(0), no run", x.keep(0), Check.GONE);
        Check.due("keep(NONE), no run", x.keep(Check.NONE), Check.GONE);
        Check.due("keep(99), no run", x.keep(99), Check.GONE);
        x.begin(3, 1L);
        Check.due("keep(3)", x.keep(3), Check.UNKNOWN);
        Check.due("keep(-1)", x.keep(-1), Check.UNKNOWN);
        Check.due("none kept", x.count(4), Check.NONE);
        Check.due("keep(NONE)", x.keep(Check.NONE), Check.NONE);
        Check.due("keep(2)", x.keep(2), Check.NONE);
        Check.due("keep(0)", x.keep(0), 2);
        Check.due("keep(3)", x.keep(3), Check.UNKNOWN);
        Check.due("kept", x.count(4), 0);
        Check.due("keep(NONE)", x.keep(Check.NONE), 0);
        Check.due("none kept", x.count(4), Check.NONE);
    }

    private static void againTellsCodesInOrder() {
        ResampledRows x = new ResampledRows();
        Check.due("no run, no way", x.again(4), Check.GONE);
        x = Check.weighed(0, 0, 0);
        x.keep(1);
        x.force(2);
        Check.due("again(-1)", x.again(-1), Check.OUTSIDE);
        Check.due("again(4)", x.again(4), Check.OUTSIDE);
        for (int way = 0; way < 4; way++) {
            Check.due("lost by way " + way, x.again(way), Check.LOST);
        }
        Check.due("no draw was made", x.count(3), 1);
        Check.due("not drawn anew", x.count(2), 0);
        Check.due("from(0)", x.from(0), Check.UNKNOWN);
        Check.due("weights stay", x.weight(0), 0);
        Check.due("kept stays", x.count(4), 1);
    }

    private static void wayZeroPicksEach() {
        ResampledRows x = Check.weighed(1, 0, 2, 4);
        Check.force(x, 6, 0, 9, 3);
        Check.due("again(0)", x.again(0), 3);
        Check.dueFrom("way 0", x, 0, 2, 3, 3);
        Check.dueStates("way 0", x, 1, 2, 4, 4);
        Check.due("all draws were made", x.count(3), 0);
        Check.due("drawn anew", x.count(2), 1);
        Check.dueDouble("evidence()", x.evidence(), 7.0 / 4.0);
    }

    /** T is 7, n (w0 + .. + wr) is 4, 4, 12, 28. */
    private static void wayOnePicksByLayers() {
        ResampledRows x = Check.weighed(1, 0, 2, 4);
        Check.force(x, 3, 4, 5, 0);
        Check.due("again(1), p 3 11 19 21", x.again(1), 3);
        Check.dueFrom("way 1", x, 0, 2, 3, 3);
        x = Check.weighed(1, 0, 2, 4);
        Check.force(x, 4, 5, 6, 13);
        Check.due("again(1), p 4 12 20 27", x.again(1), 2);
        Check.dueFrom("way 1", x, 2, 3, 3, 3);
        Check.due("all draws were made", x.count(3), 0);
    }

    private static void wayTwoPicksByOneDraw() {
        ResampledRows x = Check.weighed(1, 0, 2, 4);
        Check.force(x, 3, 99);
        Check.due("again(2), p 3 10 17 24", x.again(2), 3);
        Check.dueFrom("way 2", x, 0, 2, 3, 3);
        Check.due("one draw was made", x.count(3), 1);
        x = Check.weighed(1, 0, 2, 4);
        Check.force(x, 12);
        Check.due("again(2), p 5 12 19 26", x.again(2), 2);
        Check.dueFrom("way 2", x, 2, 3, 3, 3);
    }

    /** n wr / T is 4/7, 0, 8/7, 16/7: rows 2, 3, 3, and one by the weights 4, 0, 1, 2. */
    private static void wayThreePicksByShares() {
        int[][] drawAndRow = {{0, 0}, {3, 0}, {4, 2}, {5, 3}, {6, 3}, {7, 0}};
        for (int[] pair : drawAndRow) {
            ResampledRows x = Check.weighed(1, 0, 2, 4);
            Check.force(x, pair[0], 88);
            Check.due("again(3)", x.again(3), pair[1] == 0 ? 3 : 2);
            Check.due("one draw was made", x.count(3), 1);
            int[] want = {2, 3, 3, pair[1]};
            java.util.Arrays.sort(want);
            Check.dueFrom("way 3, draw " + pair[0], x, want);
        }
        ResampledRows even = Check.weighed(3, 3, 3);
        even.force(1);
        Check.due("again(3), none left", even.again(3), 3);
        Check.due("no draw was made", even.count(3), 1);
        ResampledRows two = Check.weighed(3, 3, 3, 1, 1);
        Check.force(two, 14, 0, 9);
        Check.due("again(3), two left", two.again(3), 4);
        Check.dueFrom("weights 4 4 4 5 5", two, 0, 0, 1, 2, 3);
        Check.due("two draws were made", two.count(3), 1);
    }

    private static void keptRowIsPickedFirst() {
        ResampledRows x = Check.weighed(1, 0, 2, 4);
        x.keep(1);
        Check.force(x, 6, 0, 2, 3);
        Check.due("again(0), kept", x.again(0), 4);
        Check.dueFrom("way 0, kept", x, 0, 1, 2, 3);
        Check.due("kept", x.count(4), 1);
        Check.due("three draws", x.count(3), 1);
        x = Check.weighed(1, 0, 2, 4);
        x.keep(1);
        Check.force(x, 4, 5, 0, 3);
        Check.due("again(1), kept, p 11 19 21", x.again(1), 3);
        Check.dueFrom("way 1, kept", x, 1, 2, 3, 3);
        Check.due("kept", x.count(4), 0);
        Check.due("three draws", x.count(3), 1);
        x = Check.weighed(1, 0, 2, 4);
        x.keep(1);
        Check.force(x, 3, 1);
        Check.due("again(2), kept, p 10 17 24", x.again(2), 3);
        Check.dueFrom("way 2, kept", x, 1, 2, 3, 3);
        Check.due("kept", x.count(4), 0);
        Check.due("one draw", x.count(3), 1);
        for (int way = 0; way < 4; way++) {
            x = Check.standing(4);
            x.keep(0);
            x.force(0);
            Check.due("one row, kept, way " + way, x.again(way), 1);
            Check.due("draws of way " + way, 1 - x.count(3), way == 2 ? 1 : 0);
            Check.due("kept", x.count(4), 0);
        }
    }

    private static void keptRowTakesTheLastPlace() {
        ResampledRows x = Check.weighed(1, 0, 2, 4);
        x.keep(1);
        x.force(0);
        Check.due("again(3), kept was not picked", x.again(3), 4);
        Check.dueFrom("0 2 3 3 with 1 for the last 3", x, 0, 1, 2, 3);
        Check.due("kept", x.count(4), 1);
        x = Check.weighed(4, 1, 0);
        x.keep(2);
        x.force(0);
        Check.due("again(3): 0 0 and 0 by 2 3 0", x.again(3), 2);
        Check.dueFrom("0 0 0 with 2 for the last 0", x, 0, 0, 2);
        Check.due("kept", x.count(4), 2);
        x = Check.weighed(4, 1, 0);
        x.keep(2);
        x.force(2);
        Check.due("again(3): 0 0 and 1 by 2 3 0", x.again(3), 2);
        Check.dueFrom("0 0 1 with 2 for 1", x, 0, 0, 2);
        x = Check.weighed(4, 1, 0);
        x.keep(1);
        x.force(2);
        Check.due("again(3): kept was drawn", x.again(3), 2);
        Check.dueFrom("0 0 1", x, 0, 0, 1);
        Check.due("kept", x.count(4), 2);
        x = Check.weighed(4, 1, 0);
        x.keep(1);
        x.force(1);
        Check.due("again(3): 0 0 0, kept was not drawn", x.again(3), 2);
        Check.dueFrom("0 0 0 with 1 for the last 0", x, 0, 0, 1);
        Check.due("kept", x.count(4), 2);
        x = Check.weighed(0, 5, 5);
        x.keep(0);
        x.force(0);
        Check.due("again(3): 1 2 and 1 by 0 5 5", x.again(3), 2);
        Check.dueFrom("1 1 2 with 0 for 2, though 1 was drawn last", x, 0, 1, 1);
    }

    private static void keptRowFollowsItsFirstLike() {
        ResampledRows x = Check.weighed(1, 5, 1);
        x.keep(1);
        Check.force(x, 0, 3);
        Check.due("again(0)", x.again(0), 2);
        Check.dueFrom("0 1 1", x, 0, 1, 1);
        Check.due("the first of its like", x.count(4), 1);
        x = Check.weighed(1, 5, 1);
        x.keep(1);
        Check.force(x, 1, 3);
        Check.due("again(0)", x.again(0), 1);
        Check.due("the first of all", x.count(4), 0);
        Check.due("a step leaves it", x.step(1, 0), 2);
        Check.due("kept", x.count(4), 0);
        x = Check.weighed(1, 5, 1);
        Check.force(x, 0, 0, 0);
        x.again(0);
        Check.due("none kept stays none", x.count(4), Check.NONE);
    }

    private static void rowsBecomeAllThatWasPicked() {
        ResampledRows x = Check.standing(5, 4, 3);
        x.seen(0, 1, 3);
        x.seen(0, 2, 0);
        Check.force(x, 2, 1, 2);
        x.step(0, 0);
        Check.due("write(1, 0, 2)", x.write(1, 0, 2), 1);
        Check.due("again(0)", x.again(0), 1);
        for (int r = 0; r < 3; r++) {
            Check.due("state", x.row(r, 0), 1);
            Check.due("weight", x.weight(r), 1);
            Check.due("length", x.row(r, 1), 2);
            Check.due("history, place 0", x.history(r, 0), 2);
            Check.due("history, place 1", x.history(r, 1), 1);
        }
        Check.due("write(0, 1, 5)", x.write(0, 1, 5), 1);
        Check.due("its like's own history", x.history(1, 1), 1);
        Check.due("its own state", x.row(0, 0), 1);
        Check.dueDouble("evidence()", x.evidence(), 1.0);
        Check.force(x, 1, 1, 2);
        x.step(0, 0);
        Check.due("the histories go on apart", x.history(0, 1), 5);
        Check.due("place 2", x.history(0, 2), 1);
        Check.due("place 2 of row 2", x.history(2, 2), 2);
        Check.dueDouble("evidence() of two", x.evidence(), 1.0 * (3 / 3.0) * (6 / 3.0));
    }

    /** 16 rows of 1000000: the greatest sums that there are. */
    private static void heaviestRowsAreDrawn() {
        for (int way = 0; way < 4; way++) {
            ResampledRows x = heaviest();
            Check.due("told(0)", x.told(0), 16000000);
            Check.due("told(1)", x.told(1), 16000000000000L);
            Check.due("told(2)", x.told(2), 16);
            Check.due("rule(way, 100)", x.rule(way, 100), 0);
            x.force(15999999);
            int unlike = x.again(way);
            Check.due("the last row is picked", x.from(15), 15);
            if (way > 0) {
                Check.due("all are picked once", unlike, 16);
            }
            Check.dueDouble("evidence()", x.evidence(), 1000000.0);
        }
    }

    private static ResampledRows heaviest() {
        ResampledRows x = new ResampledRows();
        for (int state = 0; state < 6; state++) {
            x.seen(0, state, 8);
            x.seen(1, state, 5);
        }
        x.begin(16, 3L);
        int[] sights = {0, 0, 1, 1, 1, 1, 1, 1};
        for (int sight : sights) {
            x.step(sight, 0);
        }
        return x;
    }

    /** Weights 1, 3: T T is 16, Q is 10, so that EFFECTIVE is 1.6, which is 80 of 100 of n. */
    private static void ruleAsksForEffectiveCounts() {
        ResampledRows x = Check.weighed(1, 3);
        Check.force(x, 0, 0);
        Check.due("rule(0, 1)", x.rule(0, 1), 0);
        Check.due("rule(0, 79)", x.rule(0, 79), 0);
        Check.due("rule(0, 80): as much, not below", x.rule(0, 80), 0);
        Check.due("no draw was made", x.count(3), 2);
        Check.due("not drawn anew", x.count(2), 0);
        Check.due("weights stay", x.weight(1), 3);
        Check.due("rule(0, 81)", x.rule(0, 81), 1);
        Check.dueFrom("rule(0, 81)", x, 0, 0);
        Check.due("drawn anew", x.count(2), 1);
        Check.dueDouble("evidence()", x.evidence(), 2.0);
        Check.due("rule(0, 100) of even rows", x.rule(0, 100), 0);
        x = Check.weighed(1, 3);
        x.keep(0);
        Check.due("rule(3, 100)", x.rule(3, 100), 2);
        Check.dueFrom("rule(3, 100)", x, 0, 1);
    }

    private static void ruleTellsCodesInOrder() {
        ResampledRows x = new ResampledRows();
        Check.due("no run", x.rule(9, 0), Check.GONE);
        x = Check.weighed(1, 3);
        Check.due("rule(-1, 50)", x.rule(-1, 50), Check.OUTSIDE);
        Check.due("rule(4, 50)", x.rule(4, 50), Check.OUTSIDE);
        Check.due("rule(0, 0)", x.rule(0, 0), Check.OUTSIDE);
        Check.due("rule(0, 101)", x.rule(0, 101), Check.OUTSIDE);
        Check.due("rule(0, -5)", x.rule(0, -5), Check.OUTSIDE);
        x = Check.weighed(0, 0);
        Check.due("rule(4, 50)", x.rule(4, 50), Check.OUTSIDE);
        Check.due("rule(0, 101)", x.rule(0, 101), Check.OUTSIDE);
        Check.due("rule(0, 1), all 0", x.rule(0, 1), Check.LOST);
        Check.due("rule(3, 100), all 0", x.rule(3, 100), Check.LOST);
    }

    private static void fromTellsTheLatest() {
        ResampledRows x = new ResampledRows();
        Check.due("from(0), no run", x.from(0), Check.GONE);
        x = Check.weighed(1, 2, 0);
        Check.due("from(0), not drawn anew", x.from(0), Check.UNKNOWN);
        Check.force(x, 1, 1, 1);
        x.again(0);
        Check.dueFrom("first", x, 1, 1, 1);
        Check.due("from(3)", x.from(3), Check.UNKNOWN);
        Check.due("from(-1)", x.from(-1), Check.UNKNOWN);
        Check.force(x, 2, 0, 2);
        x.again(0);
        Check.dueFrom("second", x, 0, 2, 2);
        Check.due("rule does nothing", x.rule(0, 100), 0);
        x.step(1, 0);
        Check.dueFrom("behind rule and step", x, 0, 2, 2);
        Check.due("drawn anew", x.count(2), 2);
        x.begin(3, 1L);
        Check.due("from(0) of a new run", x.from(0), Check.UNKNOWN);
    }
}
