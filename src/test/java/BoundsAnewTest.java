/** The bounds of passage 3 and of promises 10 to 12: DRAWN ANEW by its WAYS, a KEPT ROW, again, rule, from. */
public final class BoundsAnewTest {
    public static void main(String[] args) {
        Bounds.runAll(BoundsAnewTest.class);
    }

    /** Once drawn anew, then weighed again; ROW 1 is KEPT, two are forced. */
    private static ResampledRows drawnOnce() {
        ResampledRows x = Check.weighed(1, 2, 3);
        x.keep(1);
        x.again(3);
        Check.force(x, 4, 1, 5);
        x.step(0, 0);
        Check.force(x, 7, 8);
        return x;
    }

    /** Likewise, but then all weights became 0. */
    private static ResampledRows drawnOnceThenNaught() {
        ResampledRows x = Check.weighed(1, 2, 3);
        x.keep(1);
        x.again(3);
        Check.force(x, 0, 0, 0);
        x.step(0, 0);
        Check.force(x, 7, 8);
        return x;
    }

    /** n (w0 + .. + wr) is 4, 4, 12, 28, and T is 7. */
    private static ResampledRows four(int... forced) {
        ResampledRows x = Check.weighed(1, 0, 2, 4);
        Check.force(x, forced);
        return x;
    }

    private static ResampledRows fourKept(int row, int... forced) {
        ResampledRows x = four(forced);
        x.keep(row);
        return x;
    }

    private static void dueAgain(String what, ResampledRows x, int way, int left, int... want) {
        int unlike = 0;
        for (int k = 0; k < want.length; k++) {
            if (k == 0 || want[k] != want[k - 1]) {
                unlike++;
            }
        }
        Check.due(what + ": again(" + way + ")", x.again(way), unlike);
        Check.dueFrom(what, x, want);
        Check.due(what + ": forced ones that are left", x.count(3), left);
    }

    static void passage3_way0_aDrawOnTheEdgeIsTheNextRows() {
        dueAgain("draws 0 1 2 3", four(0, 1, 2, 3, 9), 0, 1, 0, 2, 2, 3);
        dueAgain("draws 6 6 6 6", four(6, 6, 6, 6, 9), 0, 1, 3, 3, 3, 3);
        dueAgain("draws 7 8 14 0, modulo 7", four(7, 8, 14, 0, 9), 0, 1, 0, 0, 0, 2);
    }

    static void passage3_way0_aRowWithoutWeightIsNotPicked() {
        ResampledRows x = Check.weighed(0, 3, 0);
        Check.force(x, 0, 1, 2);
        dueAgain("weights 0 3 0", x, 0, 0, 1, 1, 1);
    }

    /** p is k T and the DRAW; where n (w0 + .. + wr) is p, it is not above it. */
    static void passage3_way1_aSumThatIsPIsNotAbove() {
        dueAgain("p 3 11 20 27", four(3, 4, 6, 6, 9), 1, 1, 0, 2, 3, 3);
        dueAgain("p 4 12 20 27", four(4, 5, 6, 6, 9), 1, 1, 2, 3, 3, 3);
        dueAgain("p 0 7 14 21", four(0, 0, 0, 0, 9), 1, 1, 0, 2, 3, 3);
    }

    static void passage3_way1_drawsAreModuloT() {
        dueAgain("draws 11 12 7 7 are 4 5 0 0", four(11, 12, 7, 7), 1, 0, 2, 3, 3, 3);
    }

    static void passage3_way1_aFirstRowWithoutWeightIsNotPicked() {
        ResampledRows x = Check.weighed(0, 1, 1);
        Check.force(x, 0, 0, 0);
        dueAgain("weights 0 1 1, p 0 2 4", x, 1, 0, 1, 1, 2);
    }

    static void passage3_way2_oneDrawIsMadeForAll() {
        dueAgain("p 3 10 17 24", four(3, 9, 9, 9), 2, 3, 0, 2, 3, 3);
        dueAgain("p 5 12 19 26", four(5, 9), 2, 1, 2, 3, 3, 3);
        dueAgain("p 0 7 14 21", four(0, 9), 2, 1, 0, 2, 3, 3);
        dueAgain("p 6 13 20 27", four(6, 9), 2, 1, 2, 3, 3, 3);
        dueAgain("draw 7 is 0", four(7), 2, 0, 0, 2, 3, 3);
    }

    /** n wr / T is 4/7, 0/7, 8/7, 16/7. */
    static void passage3_way3_sharesAreCut() {
        dueAgain("2 3 3 and one by 4 0 1 2", four(3, 9), 3, 1, 0, 2, 3, 3);
        dueAgain("2 3 3 and one by 4 0 1 2", four(4, 9), 3, 1, 2, 2, 3, 3);
        dueAgain("2 3 3 and one by 4 0 1 2", four(5, 9), 3, 1, 2, 3, 3, 3);
        dueAgain("2 3 3 and one by 4 0 1 2", four(7, 9), 3, 1, 0, 2, 3, 3);
    }

    static void passage3_way3_noneLeftMakesNoDraw() {
        ResampledRows x = Check.weighed(4, 0, 4, 0);
        x.force(1);
        dueAgain("weights 4 0 4 0", x, 3, 1, 0, 0, 2, 2);
    }

    /** T is 12, n wr is 20 20 4 4: 0 and 1 once, two are left, by the weights 8 8 4 4. */
    static void passage3_way3_severalLeftAreDrawnByTheSameWeights() {
        int[][] drawsAndRows = {{0, 0, 0, 0, 0, 1}, {7, 8, 0, 0, 1, 1}, {15, 16, 0, 1, 1, 2}, {16, 16, 0, 1, 2, 2},
            {19, 20, 0, 1, 2, 3}, {23, 23, 0, 1, 3, 3}, {24, 23, 0, 0, 1, 3}};
        for (int[] line : drawsAndRows) {
            ResampledRows x = Check.weighed(5, 5, 1, 1);
            Check.force(x, line[0], line[1], 9);
            dueAgain("draws " + line[0] + " " + line[1], x, 3, 1, line[2], line[3], line[4], line[5]);
        }
    }

    static void passage3_picked_oneRowIsDrawnAnewByEveryWay() {
        for (int way = 0; way < 4; way++) {
            ResampledRows x = Check.weighed(3);
            Check.force(x, 2, 2);
            dueAgain("one row", x, way, way == 3 ? 2 : 1, 0);
            Check.due("weight(0)", x.weight(0), 1);
        }
    }

    static void passage3_picked_theyArePutInTheOrderOfTheirNumbers() {
        dueAgain("draws 6 0 3 1", four(6, 0, 3, 1), 0, 0, 0, 2, 3, 3);
    }

    static void passage3_picked_theNewRowBecomesAllThatItIs() {
        ResampledRows x = Check.standing(5, 4, 3);
        x.seen(0, 1, 3);
        x.seen(0, 0, 0);
        Check.force(x, 0, 1, 1, 0, 4, 5);
        x.step(0, 0);
        x.write(2, 0, 2);
        x.again(0);
        Check.dueFrom("draws 0 4 5 by 0 3 3", x, 1, 2, 2);
        int[][] want = {{4, 1}, {2, 1}, {2, 1}};
        for (int r = 0; r < 3; r++) {
            Check.due("row(" + r + ", 0)", x.row(r, 0), 1);
            Check.due("row(" + r + ", 1)", x.row(r, 1), 2);
            Check.due("history(" + r + ", 0)", x.history(r, 0), want[r][0]);
            Check.due("history(" + r + ", 1)", x.history(r, 1), want[r][1]);
            Check.due("weight(" + r + ")", x.weight(r), 1);
        }
    }

    static void passage3_picked_aRowWithAGreaterNumberIsReadBeforeItIsOverwritten() {
        ResampledRows x = Check.standing(0, 1, 2, 3);
        for (int to = 0; to < 6; to++) {
            for (int from = 0; from < 6; from++) {
                x.move(from, to, from == to ? 1 : 0);
            }
        }
        x.seen(0, 2, 0);
        x.step(0, 0);
        Check.force(x, 0, 0, 1, 2);
        dueAgain("down", x, 0, 0, 0, 0, 1, 3);
        Check.dueStates("down", x, 0, 0, 1, 3);
        Check.force(x, 2, 3, 3, 3);
        dueAgain("up", x, 0, 0, 2, 3, 3, 3);
        Check.dueStates("up", x, 1, 3, 3, 3);
        Check.due("history(0, 0)", x.history(0, 0), 1);
        Check.due("history(1, 0)", x.history(1, 0), 3);
    }

    static void passage3_picked_theHeaviestRowsByEveryWay() {
        int[] sights = {0, 0, 1, 1, 1, 1, 1, 1};
        for (int way = 0; way < 4; way++) {
            ResampledRows x = new ResampledRows();
            for (int state = 0; state < 6; state++) {
                x.seen(0, state, 8);
                x.seen(1, state, 5);
            }
            x.begin(16, 3L);
            for (int sight : sights) {
                x.step(sight, 0);
            }
            for (int r = 0; r < 16; r++) {
                x.force(way == 0 ? r * 1000000 + 999999 : 15999999);
            }
            Check.due("again(" + way + ")", x.again(way), 16);
            for (int r = 0; r < 16; r++) {
                Check.due("from(" + r + ")", x.from(r), r);
            }
            Check.dueDouble("evidence()", x.evidence(), 1000000.0);
        }
    }

    static void passage3_kept_isPick0WithoutADrawByWay0() {
        dueAgain("kept 1, draws 0 3 6", fourKept(1, 0, 3, 6, 9), 0, 1, 0, 1, 3, 3);
        dueAgain("kept 3, draws 0 0 0", fourKept(3, 0, 0, 0, 9), 0, 1, 0, 0, 0, 3);
    }

    static void passage3_kept_isPick0WithoutADrawByWay1() {
        dueAgain("kept 1, p 11 19 21", fourKept(1, 4, 5, 0, 9), 1, 1, 1, 2, 3, 3);
        dueAgain("kept 3, p 7 14 21", fourKept(3, 0, 0, 0, 9), 1, 1, 2, 3, 3, 3);
    }

    static void passage3_kept_isPick0ButTheDrawIsMadeByWay2() {
        dueAgain("kept 1, p 10 17 24", fourKept(1, 3, 9), 2, 1, 1, 2, 3, 3);
        dueAgain("kept 0, p 12 19 26", fourKept(0, 5, 9), 2, 1, 0, 3, 3, 3);
    }

    static void passage3_kept_ofOneRowAlone() {
        for (int way = 0; way < 4; way++) {
            ResampledRows x = Check.weighed(3);
            x.keep(0);
            Check.force(x, 2, 2);
            dueAgain("one row, kept", x, way, way == 2 ? 1 : 2, 0);
            Check.due("count(4)", x.count(4), 0);
        }
    }

    static void passage3_kept_takesThePlaceOfTheGreatestNumberByWay3() {
        dueAgain("0 2 3 3, kept 1", fourKept(1, 0, 9), 3, 1, 0, 1, 2, 3);
        dueAgain("2 2 3 3, kept 1", fourKept(1, 4, 9), 3, 1, 1, 2, 2, 3);
        dueAgain("2 2 3 3, kept 0", fourKept(0, 4, 9), 3, 1, 0, 2, 2, 3);
    }

    /** The greatest number goes, though a smaller one was drawn behind it. */
    static void passage3_kept_theGreatestNumberNeedNotBeTheLastDrawnByWay3() {
        ResampledRows x = Check.weighed(0, 5, 5);
        x.keep(0);
        x.force(0);
        dueAgain("1 2 and 1 by 0 5 5", x, 3, 0, 0, 1, 1);
    }

    static void passage3_kept_aRowOfTheGreatestNumberTakesThePlaceOfOneBelowByWay3() {
        ResampledRows x = Check.weighed(4, 4, 0);
        x.keep(2);
        x.force(0);
        dueAgain("0 1 and 0 by 4 4 0", x, 3, 0, 0, 0, 2);
        Check.due("count(4)", x.count(4), 2);
    }

    static void passage3_kept_takesThePlaceOfRow0WhenNoOtherWasPickedByWay3() {
        ResampledRows x = Check.weighed(4, 0, 0);
        x.keep(2);
        dueAgain("0 0 0, kept 2", x, 3, 0, 0, 0, 2);
        x = Check.weighed(4, 1, 0);
        x.keep(1);
        x.force(1);
        dueAgain("0 0 and 0 by 2 3 0, kept 1", x, 3, 0, 0, 0, 1);
        Check.due("count(4)", x.count(4), 2);
    }

    static void passage3_kept_takesAPlaceOf16ByWay3() {
        ResampledRows x = Check.weighed(0, 4, 4, 4, 4, 4, 4, 4, 4, 4, 4, 4, 4, 4, 4, 4);
        x.keep(0);
        x.force(0);
        Check.due("again(3): 1 to 15 once, 1 once more, 0 for 15", x.again(3), 15);
        Check.dueFrom("kept 0", x, 0, 1, 1, 2, 3, 4, 5, 6, 7, 8, 9, 10, 11, 12, 13, 14);
        Check.due("count(4)", x.count(4), 0);
    }

    static void passage3_kept_whenPickedByItsShareChangesNothingByWay3() {
        dueAgain("0 2 3 3, kept 2", fourKept(2, 0, 9), 3, 1, 0, 2, 3, 3);
        dueAgain("0 2 3 3, kept 3", fourKept(3, 0, 9), 3, 1, 0, 2, 3, 3);
    }

    static void passage3_kept_whenPickedByADrawChangesNothingByWay3() {
        dueAgain("0 2 3 3, kept 0", fourKept(0, 3, 9), 3, 1, 0, 2, 3, 3);
    }

    static void passage3_kept_becomesTheFirstOneOfItsLike() {
        ResampledRows x = fourKept(3, 6, 6, 0);
        x.again(0);
        Check.dueFrom("draws 6 6 0, kept 3", x, 0, 3, 3, 3);
        Check.due("count(4)", x.count(4), 1);
        x = fourKept(0, 0, 0, 6);
        x.again(0);
        Check.dueFrom("draws 0 0 6, kept 0", x, 0, 0, 0, 3);
        Check.due("count(4)", x.count(4), 0);
        x = fourKept(1, 6, 6, 6);
        x.again(0);
        Check.due("a row without weight: count(4)", x.count(4), 0);
        Check.due("row(0, 0)", x.row(0, 0), 0);
        Check.due("weight(0)", x.weight(0), 1);
    }

    static void passage3_kept_staysKeptFromDrawingToDrawing() {
        ResampledRows x = fourKept(1, 0, 0, 6);
        x.again(0);
        Check.dueFrom("first", x, 0, 0, 1, 3);
        Check.due("count(4)", x.count(4), 2);
        Check.force(x, 3, 3, 3);
        x.again(0);
        Check.dueFrom("second", x, 2, 3, 3, 3);
        Check.due("count(4)", x.count(4), 0);
        Check.due("it is the row that was kept", x.row(0, 0), 0);
        Check.due("keep(NONE)", x.keep(Check.NONE), 0);
        Check.force(x, 3, 3, 3, 3);
        x.again(0);
        Check.dueFrom("third, without it", x, 3, 3, 3, 3);
        Check.due("count(4)", x.count(4), Check.NONE);
    }

    /** 0.2 times 0.2 is not 0.04 as a double; neither 0.2 times 1 by 5 nor 1 by 25 would tell that. */
    static void passage3_evidence_isTimesTheQuotient() {
        ResampledRows x = Check.weighed(1, 0, 0, 0, 0);
        Check.dueDouble("evidence() before it", x.evidence(), 0.2);
        x.again(0);
        Check.dueDouble("evidence() behind it", x.evidence(), 0.2);
        Check.force(x, 1, 0, 0, 0, 0);
        x.step(0, 0);
        Check.dueDouble("evidence() of another step", x.evidence(), 0.04000000000000001);
        x.again(0);
        Check.dueDouble("evidence() behind both", x.evidence(), 0.04000000000000001);
        Check.due("count(2)", x.count(2), 2);
    }

    static void promise10_again_withoutARunIsGone() {
        for (int way = 0; way < 4; way++) {
            int by = way;
            Bounds.refused("again(" + way + ")", ResampledRows::new, x -> x.again(by), Check.GONE);
        }
    }

    static void promise10_again_goneComesBeforeOutside() {
        Bounds.refused("again(-1)", ResampledRows::new, x -> x.again(-1), Check.GONE);
        Bounds.refused("again(4)", ResampledRows::new, x -> x.again(4), Check.GONE);
    }

    static void promise10_again_wayBelow0IsOutside() {
        Bounds.refused("again(-1)", BoundsAnewTest::drawnOnce, x -> x.again(-1), Check.OUTSIDE);
        Bounds.refused("again(min)", BoundsAnewTest::drawnOnce, x -> x.again(Bounds.MIN), Check.OUTSIDE);
    }

    static void promise10_again_wayAbove3IsOutside() {
        Bounds.refused("again(4)", BoundsAnewTest::drawnOnce, x -> x.again(4), Check.OUTSIDE);
        Bounds.refused("again(max)", BoundsAnewTest::drawnOnce, x -> x.again(Bounds.MAX), Check.OUTSIDE);
    }

    static void promise10_again_outsideComesBeforeLost() {
        Bounds.refused("again(-1)", BoundsAnewTest::drawnOnceThenNaught, x -> x.again(-1), Check.OUTSIDE);
        Bounds.refused("again(4)", BoundsAnewTest::drawnOnceThenNaught, x -> x.again(4), Check.OUTSIDE);
    }

    static void promise10_again_lostIfTIs0ByEveryWay() {
        for (int way = 0; way < 4; way++) {
            int by = way;
            Bounds.refused("again(" + way + ")", BoundsAnewTest::drawnOnceThenNaught, x -> x.again(by), Check.LOST);
        }
    }

    static void promise10_again_isNotLostWithOneWeightOf1() {
        for (int way = 0; way < 4; way++) {
            ResampledRows x = Check.weighed(0, 0, 1);
            Check.due("again(" + way + ")", x.again(way), 1);
            Check.dueFrom("weights 0 0 1", x, 2, 2, 2);
        }
    }

    static void promise10_again_tellsHowManyUnlikeRowsAtLeastAndAtMost() {
        ResampledRows x = Check.standing(1, 1, 1, 1);
        Check.force(x, 0, 1, 2, 3);
        Check.due("all of one STATE, but each picked", x.again(0), 4);
        Check.force(x, 2, 2, 2, 2);
        Check.due("one alone", x.again(0), 1);
        ResampledRows most = new ResampledRows();
        most.begin(16, 1L);
        Check.due("16 rows", most.again(2), 16);
    }

    static void promise10_again_beforeAnyStep() {
        ResampledRows x = Check.standing(3, 4);
        Check.force(x, 1, 1);
        dueAgain("at first", x, 0, 0, 1, 1);
        Check.dueStates("at first", x, 4, 4);
        Check.due("count(1)", x.count(1), 0);
        Check.due("row(0, 1)", x.row(0, 1), 1);
        Check.due("history(0, 0)", x.history(0, 0), 4);
    }

    static void promise11_rule_withoutARunIsGone() {
        Bounds.refused("rule(0, 50)", ResampledRows::new, x -> x.rule(0, 50), Check.GONE);
    }

    static void promise11_rule_goneComesBeforeOutside() {
        Bounds.refused("rule(4, 50)", ResampledRows::new, x -> x.rule(4, 50), Check.GONE);
        Bounds.refused("rule(0, 0)", ResampledRows::new, x -> x.rule(0, 0), Check.GONE);
        Bounds.refused("rule(-1, 101)", ResampledRows::new, x -> x.rule(-1, 101), Check.GONE);
    }

    static void promise11_rule_wayBelow0IsOutside() {
        Bounds.refused("rule(-1, 100)", BoundsAnewTest::drawnOnce, x -> x.rule(-1, 100), Check.OUTSIDE);
        Bounds.refused("rule(min, 1)", BoundsAnewTest::drawnOnce, x -> x.rule(Bounds.MIN, 1), Check.OUTSIDE);
    }

    static void promise11_rule_wayAbove3IsOutside() {
        Bounds.refused("rule(4, 100)", BoundsAnewTest::drawnOnce, x -> x.rule(4, 100), Check.OUTSIDE);
        Bounds.refused("rule(4, 1)", BoundsAnewTest::drawnOnce, x -> x.rule(4, 1), Check.OUTSIDE);
        Bounds.refused("rule(max, 100)", BoundsAnewTest::drawnOnce, x -> x.rule(Bounds.MAX, 100), Check.OUTSIDE);
    }

    static void promise11_rule_partBelow1IsOutside() {
        Bounds.refused("rule(0, 0)", BoundsAnewTest::drawnOnce, x -> x.rule(0, 0), Check.OUTSIDE);
        Bounds.refused("rule(3, -1)", BoundsAnewTest::drawnOnce, x -> x.rule(3, -1), Check.OUTSIDE);
        Bounds.refused("rule(0, min)", BoundsAnewTest::drawnOnce, x -> x.rule(0, Bounds.MIN), Check.OUTSIDE);
    }

    static void promise11_rule_partAbove100IsOutside() {
        Bounds.refused("rule(0, 101)", BoundsAnewTest::drawnOnce, x -> x.rule(0, 101), Check.OUTSIDE);
        Bounds.refused("rule(3, max)", BoundsAnewTest::drawnOnce, x -> x.rule(3, Bounds.MAX), Check.OUTSIDE);
    }

    static void promise11_rule_part1IsGood() {
        Bounds.refused("rule(0, 1): not below, so nothing is done", BoundsAnewTest::drawnOnce, x -> x.rule(0, 1), 0);
    }

    static void promise11_rule_part100IsGood() {
        ResampledRows x = Check.weighed(4, 5);
        Check.force(x, 0, 4);
        Check.due("rule(0, 100)", x.rule(0, 100), 2);
        Check.due("count(2)", x.count(2), 1);
    }

    static void promise11_rule_outsideComesBeforeLost() {
        Bounds.refused("rule(4, 50)", BoundsAnewTest::drawnOnceThenNaught, x -> x.rule(4, 50), Check.OUTSIDE);
        Bounds.refused("rule(0, 0)", BoundsAnewTest::drawnOnceThenNaught, x -> x.rule(0, 0), Check.OUTSIDE);
        Bounds.refused("rule(0, 101)", BoundsAnewTest::drawnOnceThenNaught, x -> x.rule(0, 101), Check.OUTSIDE);
    }

    static void promise11_rule_lostIfTIs0WhateverPartIs() {
        int[] parts = {1, 50, 100};
        for (int way = 0; way < 4; way++) {
            for (int part : parts) {
                int by = way;
                Bounds.refused("rule(" + way + ", " + part + ")", BoundsAnewTest::drawnOnceThenNaught,
                    x -> x.rule(by, part), Check.LOST);
            }
        }
    }

    /** Weights 1 3: T T is 16, Q is 10; 100 T T is 1600, part n Q is 20 part. */
    static void promise11_rule_asMuchIsNotBelow() {
        Bounds.Maker maker = () -> {
            ResampledRows x = Check.weighed(1, 3);
            Check.force(x, 0, 0, 5);
            return x;
        };
        Bounds.refused("rule(0, 79)", maker, x -> x.rule(0, 79), 0);
        Bounds.refused("rule(0, 80)", maker, x -> x.rule(0, 80), 0);
        ResampledRows x = maker.make();
        Check.due("rule(0, 81)", x.rule(0, 81), 1);
        Check.dueFrom("rule(0, 81)", x, 0, 0);
    }

    /** EFFECTIVE is 1.81 of 3 (60.49 of 100), though it is cut off to 1 (33.3 of 100) where it is told. */
    static void promise11_rule_effectiveIsNotCutOff() {
        Bounds.Maker maker = () -> Check.weighed(1, 1, 5);
        Check.due("told(2)", maker.make().told(2), 1);
        Bounds.refused("rule(0, 34)", maker, x -> x.rule(0, 34), 0);
        Bounds.refused("rule(0, 60)", maker, x -> x.rule(0, 60), 0);
        Check.due("rule(2, 61) draws anew", maker.make().rule(2, 61) > 0 ? 1 : 0, 1);
    }

    static void promise11_rule_rowsOfOneWeightAreNeverBelow() {
        Bounds.refused("rule(0, 100)", () -> Check.standing(1, 2, 3), x -> x.rule(0, 100), 0);
        Bounds.refused("rule(3, 100)", () -> Check.weighed(4, 4), x -> x.rule(3, 100), 0);
        Bounds.refused("rule(1, 100) of one row", () -> Check.weighed(5), x -> x.rule(1, 100), 0);
    }

    /** One of 16 has weight: EFFECTIVE is 1, and 6 of 100 of 16 are 0.96, 7 are 1.12. */
    static void promise11_rule_theLeastThatCanBeBelow() {
        ResampledRows x = Check.weighed(0, 0, 0, 0, 0, 0, 0, 0, 0, 0, 0, 0, 0, 0, 0, 5);
        Check.due("rule(3, 6)", x.rule(3, 6), 0);
        Check.due("rule(3, 7)", x.rule(3, 7), 1);
        Check.due("from(0)", x.from(0), 15);
    }

    /** 15 ROWS of 1000000 and one of 200000: 100 T T is 23104 and part n Q 240.64 part, both times 10^12. */
    static void promise11_rule_theGreatestNumbersAreExact() {
        ResampledRows x = new ResampledRows();
        for (int state = 0; state < 6; state++) {
            x.seen(0, state, 8);
            x.seen(1, state, 5);
        }
        x.begin(16, 3L);
        int[] sights = {0, 0, 1, 1, 1, 1, 1};
        for (int sight : sights) {
            x.step(sight, 0);
        }
        x.seen(1, 0, 1);
        Check.force(x, 0, 1, 1, 1, 1, 1, 1, 1, 1, 1, 1, 1, 1, 1, 1, 1);
        x.step(1, 0);
        Check.due("told(0)", x.told(0), 15200000L);
        Check.due("told(1)", x.told(1), 15040000000000L);
        Check.due("rule(0, 96)", x.rule(0, 96), 0);
        x.force(0);
        Check.due("rule(2, 97)", x.rule(2, 97) > 0 ? 1 : 0, 1);
    }

    static void promise11_rule_belowIsAsAgain() {
        for (int way = 0; way < 4; way++) {
            ResampledRows x = drawnOnce();
            ResampledRows y = drawnOnce();
            Check.due("rule(" + way + ", 100)", x.rule(way, 100), y.again(way));
            Bounds.alike("rule(" + way + ", 100) is again(" + way + ")", x, y);
        }
    }

    static void promise12_from_withoutARunIsGone() {
        Check.due("from(0)", new ResampledRows().from(0), Check.GONE);
        Check.due("from(-1)", new ResampledRows().from(-1), Check.GONE);
        Check.due("from(16)", new ResampledRows().from(16), Check.GONE);
    }

    static void promise12_from_beforeADrawingAnewIsUnknown() {
        ResampledRows x = Check.weighed(1, 2);
        Check.due("from(0)", x.from(0), Check.UNKNOWN);
        Check.due("from(1)", x.from(1), Check.UNKNOWN);
        Check.due("rule(0, 1)", x.rule(0, 1), 0);
        Check.due("from(0), the rule did not draw", x.from(0), Check.UNKNOWN);
    }

    static void promise12_from_theFirstAndTheLastRow() {
        ResampledRows x = new ResampledRows();
        x.begin(16, 1L);
        x.again(2);
        Check.due("from(0)", x.from(0), 0);
        Check.due("from(15)", x.from(15), 15);
    }

    static void promise12_from_aRowThatThereIsNotIsUnknown() {
        ResampledRows x = drawnOnce();
        Check.due("from(-1)", x.from(-1), Check.UNKNOWN);
        Check.due("from(3)", x.from(3), Check.UNKNOWN);
        Check.due("from(16)", x.from(16), Check.UNKNOWN);
        Check.due("from(min)", x.from(Bounds.MIN), Check.UNKNOWN);
        Check.due("from(max)", x.from(Bounds.MAX), Check.UNKNOWN);
    }

    static void promise12_from_isOfTheLatestDrawing() {
        ResampledRows x = four(6, 6, 6, 6);
        x.again(0);
        Check.dueFrom("the first drawing", x, 3, 3, 3, 3);
        Check.force(x, 0, 1, 1, 2);
        x.again(0);
        Check.dueFrom("the second drawing", x, 0, 1, 1, 2);
        x.step(1, 0);
        Check.dueFrom("a step behind it", x, 0, 1, 1, 2);
    }

    static void promise12_from_staysWhenADrawingIsLost() {
        ResampledRows x = four(6, 6, 6, 0);
        x.again(0);
        Check.force(x, 0, 0, 0, 0);
        x.step(0, 0);
        Check.due("again(0)", x.again(0), Check.LOST);
        Check.dueFrom("the drawing before it", x, 0, 3, 3, 3);
    }

    static void promise12_from_ofANewRunIsUnknown() {
        ResampledRows x = drawnOnce();
        x.begin(3, 1L);
        Check.due("from(0)", x.from(0), Check.UNKNOWN);
        x.begin(3, 1L);
        x.again(2);
        Check.due("from(2)", x.from(2), 2);
    }
}
