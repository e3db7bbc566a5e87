/** The bounds of passage 1 and of promises 6 and 7: a DRAW, BY WEIGHTS, force, begin. */
public final class BoundsDrawTest {
    public static void main(String[] args) {
        Bounds.runAll(BoundsDrawTest.class);
    }

    private static ResampledRows startingBy(int... weights) {
        ResampledRows x = new ResampledRows();
        for (int state = 0; state < 6; state++) {
            x.start(state, weights[state]);
        }
        return x;
    }

    private static ResampledRows forcedFull() {
        ResampledRows x = new ResampledRows();
        for (int k = 0; k < 64; k++) {
            x.force(k * k % 7);
        }
        return x;
    }

    /** A RUN with all that a refused begin could spoil. */
    private static ResampledRows busy() {
        ResampledRows x = Check.weighed(3, 1, 2);
        x.keep(1);
        x.again(3);
        x.step(0, 0);
        x.write(0, 1, 5);
        x.force(4);
        x.force(2);
        return x;
    }

    private static ResampledRows busyWithoutStarts() {
        ResampledRows x = busy();
        for (int state = 0; state < 6; state++) {
            x.start(state, 0);
        }
        return x;
    }

    /** Worked out with whole numbers of any length, cut to 64 bits. */
    static void passage1_draw_wrapsAt64Bits() {
        dueOfSeed(0L, 5, 0, 1, 4, 5, 5);
        dueOfSeed(1L, 2, 3, 0, 0, 0, 5);
        dueOfSeed(-1L, 4, 5, 1, 2, 0, 5);
        dueOfSeed(Long.MAX_VALUE, 0, 1, 3, 0, 2, 1);
        dueOfSeed(Long.MIN_VALUE, 3, 4, 3, 2, 3, 1);
    }

    private static void dueOfSeed(long seed, int... states) {
        ResampledRows x = new ResampledRows();
        x.begin(states.length, seed);
        Check.dueStates("seed " + seed, x, states);
    }

    /** The third x of seed 0 is below 0 as a number with a sign; shifted with its sign it would tell another STATE. */
    static void passage1_draw_shiftsWithoutTheSign() {
        ResampledRows x = new ResampledRows();
        x.begin(3, 0L);
        Check.due("row(2, 0)", x.row(2, 0), 1299921937 % 6);
    }

    /** All the 31 bits are used: by the weights 9 9 9 9 9 9 the first DRAW of seed 7 is 1059165278 modulo 54, 8. */
    static void passage1_draw_isModuloM() {
        ResampledRows x = startingBy(9, 9, 9, 9, 9, 9);
        x.begin(2, 7L);
        Check.dueStates("sum 54", x, (int) (1059165278L % 54 / 9), (int) (2052263231L % 54 / 9));
        x = startingBy(1, 1, 1, 1, 1, 0);
        x.begin(2, 7L);
        Check.dueStates("sum 5", x, 1059165278 % 5, 2052263231 % 5);
    }

    static void passage1_draw_below1IsMade() {
        ResampledRows x = startingBy(0, 0, 0, 1, 0, 0);
        Check.force(x, 8, 9, 10);
        x.begin(2, 1L);
        Check.dueStates("one start", x, 3, 3);
        Check.due("forced ones that are left", x.count(3), 1);
        x.start(2, 1);
        x.step(0, 0);
        Check.due("the draw that was left is 10 modulo 6", x.row(0, 0), 4);
        Check.due("then x goes on from the seed", x.row(1, 0), Bounds.drawOf(1L, 0, 6));
    }

    static void passage1_draw_below1MovesX() {
        ResampledRows x = startingBy(0, 0, 0, 1, 0, 0);
        x.begin(2, 1L);
        x.step(0, 0);
        Check.dueStates("the third and the fourth draw", x, Bounds.drawOf(1L, 2, 6), Bounds.drawOf(1L, 3, 6));
    }

    static void passage1_draw_forcedComesBeforeX() {
        ResampledRows x = new ResampledRows();
        Check.force(x, 3, 1);
        x.begin(4, 0L);
        Check.dueStates("two forced, two by x as the first ones", x, 3, 1, 5, 0);
    }

    static void passage1_draw_forcedIsModuloM() {
        ResampledRows x = new ResampledRows();
        Check.force(x, 5, 6, 7, Bounds.MAX);
        x.begin(4, 0L);
        Check.dueStates("5 6 7 2147483647", x, 5, 0, 1, 1);
    }

    static void passage1_draw_forcedIsKeptWholeUntilItIsDrawn() {
        ResampledRows x = startingBy(1, 1, 1, 1, 1, 0);
        Check.force(x, 11, 11);
        x.begin(1, 0L);
        Check.due("11 modulo 5", x.row(0, 0), 1);
        x.start(5, 1);
        x.begin(1, 0L);
        Check.due("11 modulo 6", x.row(0, 0), 5);
    }

    static void passage1_byWeights_isTheFirstOneAbove() {
        ResampledRows x = startingBy(2, 1, 3, 1, 1, 1);
        Check.force(x, 0, 1, 2, 3, 4, 5, 6, 7, 8, 9);
        x.begin(10, 0L);
        Check.dueStates("by 2 1 3 1 1 1", x, 0, 0, 1, 2, 2, 2, 3, 4, 5, 0);
    }

    static void passage1_byWeights_aFirstOneOfNaughtIsNotDrawn() {
        ResampledRows x = startingBy(0, 0, 1, 1, 1, 1);
        Check.force(x, 0, 4);
        x.begin(2, 0L);
        Check.dueStates("by 0 0 1 1 1 1", x, 2, 2);
    }

    static void passage1_byWeights_aMiddleOneOfNaughtIsNotDrawn() {
        ResampledRows x = startingBy(1, 0, 0, 0, 1, 1);
        Check.force(x, 0, 1, 2);
        x.begin(3, 0L);
        Check.dueStates("by 1 0 0 0 1 1", x, 0, 4, 5);
    }

    static void passage1_byWeights_aLastOneOfNaughtIsNotDrawn() {
        ResampledRows x = startingBy(1, 1, 9, 0, 0, 0);
        Check.force(x, 10, 11);
        x.begin(2, 0L);
        Check.dueStates("by 1 1 9 0 0 0", x, 2, 0);
    }

    static void passage1_byWeights_theGreatestSumIs54() {
        ResampledRows x = startingBy(9, 9, 9, 9, 9, 9);
        Check.force(x, 8, 9, 44, 45, 53, 54);
        x.begin(6, 0L);
        Check.dueStates("by six times 9", x, 0, 1, 4, 5, 5, 0);
    }

    static void passage1_byWeights_lostMakesNoDraw() {
        ResampledRows x = startingBy(0, 0, 0, 0, 0, 0);
        Check.force(x, 4, 5);
        Check.due("begin(2, 1)", x.begin(2, 1L), Check.LOST);
        Check.due("forced ones that are left", x.count(3), 2);
        ResampledRows y = Check.standing(2);
        for (int to = 0; to < 6; to++) {
            y.move(2, to, 0);
        }
        Check.due("step(0, 0)", y.step(0, 0), Check.LOST);
        y.move(2, 0, 1);
        y.move(2, 1, 1);
        y.step(0, 0);
        Check.due("the first draw of the seed", y.row(0, 0), Bounds.drawOf(1L, 0, 2));
    }

    static void promise06_force_0IsTaken() {
        ResampledRows x = new ResampledRows();
        Check.due("force(0)", x.force(0), 1);
        x.begin(1, 1L);
        Check.due("row(0, 0)", x.row(0, 0), 0);
    }

    static void promise06_force_theGreatestIntIsTaken() {
        ResampledRows x = new ResampledRows();
        Check.due("force(max)", x.force(Bounds.MAX), 1);
        x.begin(1, 1L);
        Check.due("row(0, 0)", x.row(0, 0), 1);
    }

    static void promise06_force_below0IsOutside() {
        Bounds.refused("force(-1)", BoundsDrawTest::busy, x -> x.force(-1), Check.OUTSIDE);
        Bounds.refused("force(min)", BoundsDrawTest::busy, x -> x.force(Bounds.MIN), Check.OUTSIDE);
        Bounds.refused("force(-1) of a new object", ResampledRows::new, x -> x.force(-1), Check.OUTSIDE);
    }

    static void promise06_force_the64thIsTaken() {
        ResampledRows x = new ResampledRows();
        for (int k = 1; k <= 64; k++) {
            Check.due("force " + k, x.force(k % 6), k);
        }
        Check.due("count(3)", x.count(3), 64);
        for (int run = 0; run < 4; run++) {
            x.begin(16, 1L);
            for (int r = 0; r < 16; r++) {
                Check.due("forced one " + (run * 16 + r), x.row(r, 0), (run * 16 + r + 1) % 6);
            }
        }
        Check.due("count(3)", x.count(3), 0);
    }

    static void promise06_force_the65thIsOutside() {
        Bounds.refused("the 65th", BoundsDrawTest::forcedFull, x -> x.force(1), Check.OUTSIDE);
        Bounds.refused("the 65th, below 0", BoundsDrawTest::forcedFull, x -> x.force(-1), Check.OUTSIDE);
    }

    static void promise06_force_onlyThoseThatAreLeftCount() {
        ResampledRows x = forcedFull();
        x.begin(1, 1L);
        Check.due("one was drawn, one more", x.force(3), 64);
        Check.due("and the 65th that is left", x.force(3), Check.OUTSIDE);
        x.begin(16, 1L);
        for (int k = 49; k <= 64; k++) {
            Check.due("16 were drawn, one more", x.force(2), k);
        }
        Check.due("and the 65th that is left", x.force(3), Check.OUTSIDE);
    }

    /** 64 are left all the time, while 96 more come behind them. */
    static void promise06_force_comesBehindTheOthersWhenTheyWrapAround() {
        ResampledRows x = forcedFull();
        int put = 64;
        for (int run = 0; run < 10; run++) {
            x.begin(16, 1L);
            for (int r = 0; r < 16; r++) {
                int k = run * 16 + r;
                Check.due("forced one " + k, x.row(r, 0), k * k % 7 % 6);
                if (put < 160) {
                    Check.due("force", x.force(put * put % 7), 49 + r);
                    put++;
                }
            }
        }
        Check.due("count(3)", x.count(3), 0);
    }

    static void promise06_force_needsNoRun() {
        ResampledRows x = new ResampledRows();
        Check.due("force(5)", x.force(5), 1);
        Check.due("count(3)", x.count(3), 1);
        Check.due("count(0)", x.count(0), 0);
    }

    static void promise07_begin_1RowIsTheLeast() {
        ResampledRows x = new ResampledRows();
        Check.due("begin(1, 3)", x.begin(1, 3L), 1);
        Check.due("count(0)", x.count(0), 1);
        Check.due("row(1, 0)", x.row(1, 0), Check.UNKNOWN);
    }

    static void promise07_begin_16RowsAreTheMost() {
        ResampledRows x = new ResampledRows();
        Check.due("begin(16, 3)", x.begin(16, 3L), 16);
        Check.due("count(0)", x.count(0), 16);
        Check.due("row(15, 0)", x.row(15, 0), Bounds.drawOf(3L, 15, 6));
        Check.due("row(16, 0)", x.row(16, 0), Check.UNKNOWN);
    }

    static void promise07_begin_0RowsAreOutside() {
        Bounds.refused("begin(0, 3)", BoundsDrawTest::busy, x -> x.begin(0, 3L), Check.OUTSIDE);
        Bounds.refused("begin(0, 3) of a new object", ResampledRows::new, x -> x.begin(0, 3L), Check.OUTSIDE);
    }

    static void promise07_begin_17RowsAreOutside() {
        Bounds.refused("begin(17, 3)", BoundsDrawTest::busy, x -> x.begin(17, 3L), Check.OUTSIDE);
        Bounds.refused("begin(max, 3)", BoundsDrawTest::busy, x -> x.begin(Bounds.MAX, 3L), Check.OUTSIDE);
    }

    static void promise07_begin_below0IsRefusedByTheMachine() {
        Bounds.refused("begin(-1, 3)", BoundsDrawTest::busy, x -> x.begin(-1, 3L), Check.REFUSED);
        Bounds.refused("begin(min, 3)", BoundsDrawTest::busy, x -> x.begin(Bounds.MIN, 3L), Check.REFUSED);
        Bounds.refused("begin(-1, 3) of a new object", ResampledRows::new, x -> x.begin(-1, 3L), Check.REFUSED);
    }

    static void promise07_begin_lostEndsTheRun() {
        ResampledRows x = busyWithoutStarts();
        Check.due("begin(2, 3)", x.begin(2, 3L), Check.LOST);
        Check.due("count(0)", x.count(0), 0);
        Check.due("row(0, 0)", x.row(0, 0), Check.GONE);
        Check.due("keep(0)", x.keep(0), Check.GONE);
        Check.due("step(0, 0)", x.step(0, 0), Check.GONE);
        Check.due("again(0)", x.again(0), Check.GONE);
        Check.due("rule(0, 50)", x.rule(0, 50), Check.GONE);
        Check.due("from(0)", x.from(0), Check.GONE);
        Check.due("weight(0)", x.weight(0), Check.GONE);
        Check.due("history(0, 0)", x.history(0, 0), Check.GONE);
        Check.due("write(0, 0, 0)", x.write(0, 0, 0), Check.GONE);
        Check.due("told(0)", x.told(0), Check.GONE);
        Check.due("count(4)", x.count(4), Check.NONE);
        Check.dueDouble("evidence()", x.evidence(), 0.0);
    }

    static void promise07_begin_lostLeavesTablesAndForcedOnes() {
        ResampledRows x = busyWithoutStarts();
        x.begin(2, 3L);
        Check.due("count(3)", x.count(3), 2);
        Check.due("seen(0, 5, 5)", x.seen(0, 5, 5), 5);
        Check.due("start(4, 1)", x.start(4, 1), 0);
        Check.due("begin(3, 3)", x.begin(3, 3L), 3);
        Check.dueStates("the only start", x, 4, 4, 4);
    }

    static void promise07_begin_lostWithoutARunThatWas() {
        ResampledRows x = startingBy(0, 0, 0, 0, 0, 0);
        Check.due("begin(1, 3)", x.begin(1, 3L), Check.LOST);
        Check.due("begin(16, 3)", x.begin(16, 3L), Check.LOST);
        Check.due("count(0)", x.count(0), 0);
    }

    static void promise07_begin_outsideComesBeforeLost() {
        Bounds.refused("begin(0, 3)", BoundsDrawTest::busyWithoutStarts, x -> x.begin(0, 3L), Check.OUTSIDE);
        Bounds.refused("begin(17, 3)", BoundsDrawTest::busyWithoutStarts, x -> x.begin(17, 3L), Check.OUTSIDE);
        Bounds.refused("begin(-1, 3)", BoundsDrawTest::busyWithoutStarts, x -> x.begin(-1, 3L), Check.REFUSED);
    }

    static void promise07_begin_whatWasForcedIsLeftAsItIs() {
        ResampledRows x = new ResampledRows();
        Check.force(x, 2, 3, 4, 5);
        x.begin(2, 3L);
        Check.dueStates("the first two", x, 2, 3);
        Check.due("count(3)", x.count(3), 2);
        x.begin(1, 3L);
        Check.dueStates("the third", x, 4);
        Check.due("count(3)", x.count(3), 1);
    }

    static void promise07_begin_xIsTheSeedEachTime() {
        ResampledRows x = new ResampledRows();
        for (int run = 0; run < 3; run++) {
            x.begin(3, 2L);
            Check.dueStates("seed 2", x, 4, 0, 0);
            x.step(0, 0);
            Check.dueStates("seed 2, a step", x, 2, 5, 5);
        }
    }

    static void promise07_begin_nothingOfTheOldRunIsLeft() {
        ResampledRows x = Check.weighed(3, 1, 2);
        x.keep(1);
        x.again(3);
        Check.force(x, 5, 0, 5);
        x.step(0, 0);
        x.begin(5, 8L);
        ResampledRows y = new ResampledRows();
        for (int w = 0; w < 6; w++) {
            y.seen(0, w, w);
        }
        y.begin(5, 8L);
        Check.due("count(1)", x.count(1), 0);
        Check.due("count(2)", x.count(2), 0);
        Check.due("count(4)", x.count(4), Check.NONE);
        Check.due("from(0)", x.from(0), Check.UNKNOWN);
        Check.dueDouble("evidence()", x.evidence(), 1.0);
        Bounds.alike("a second run", x, y);
    }

    static void promise07_begin_fewerRowsThanBefore() {
        ResampledRows x = new ResampledRows();
        x.begin(16, 3L);
        x.begin(2, 3L);
        Check.due("count(0)", x.count(0), 2);
        Check.due("row(2, 0)", x.row(2, 0), Check.UNKNOWN);
        Check.due("keep(2)", x.keep(2), Check.UNKNOWN);
        Check.due("told(0)", x.told(0), 2);
    }
}
