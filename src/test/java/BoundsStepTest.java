/** The bounds of passage 2 and of promises 8 and 9: a RUN, keep, step. */
public final class BoundsStepTest {
    public static void main(String[] args) {
        Bounds.runAll(BoundsStepTest.class);
    }

    private static ResampledRows threeRows() {
        ResampledRows x = Check.standing(1, 2, 3);
        x.keep(1);
        Check.force(x, 4, 5, 0);
        return x;
    }

    /** ROWS in STATES 1, 2, 3, of which one can't move on. */
    private static ResampledRows stuckIn(int state) {
        ResampledRows x = threeRows();
        for (int to = 0; to < 6; to++) {
            x.move(state, to, 0);
        }
        return x;
    }

    /** ROWS in STATES 1, 2, 3, of which one has a NAME of its own. */
    private static ResampledRows otherNameOf(int state) {
        ResampledRows x = threeRows();
        x.named(state, 2);
        return x;
    }

    /** ROWS that stay in STATE 0, weighed by each of these in turn; SIGHT 4 is to weigh the last number. */
    private static ResampledRows heavy(int rows, int last, int... weights) {
        ResampledRows x = new ResampledRows();
        for (int to = 1; to < 6; to++) {
            x.start(to, 0);
            x.move(0, to, 0);
        }
        x.begin(rows, 1L);
        for (int k = 0; k < weights.length; k++) {
            x.seen(0, 0, weights[k]);
            Check.due("step " + (k + 1), x.step(0, 0), k + 1);
        }
        x.seen(4, 0, last);
        return x;
    }

    private static ResampledRows aMillion(int rows, int last) {
        return heavy(rows, last, 8, 8, 5, 5, 5, 5, 5, 5);
    }

    private static ResampledRows thirtySteps() {
        ResampledRows x = new ResampledRows();
        x.begin(2, 5L);
        for (int k = 1; k <= 30; k++) {
            Check.due("step " + k, x.step(0, 0), k);
        }
        x.force(3);
        return x;
    }

    static void passage2_run_weightsAreOneAtFirst() {
        ResampledRows x = heavy(3, 1, 9, 9);
        x.begin(16, 1L);
        for (int r = 0; r < 16; r++) {
            Check.due("weight(" + r + ")", x.weight(r), 1);
        }
    }

    static void passage2_run_historyHasTheFirstStateAtFirst() {
        ResampledRows x = Check.standing(4, 2);
        Check.due("row(0, 1)", x.row(0, 1), 1);
        Check.due("history(0, 0)", x.history(0, 0), 4);
        Check.due("history(1, 0)", x.history(1, 0), 2);
        Check.dueThrow("history(1, 1)", x, 1, 1);
    }

    static void passage2_run_rowsAreDrawnInOrder() {
        ResampledRows x = new ResampledRows();
        Check.force(x, 0, 1, 2, 3, 4, 5);
        x.begin(6, 1L);
        Check.dueStates("begin", x, 0, 1, 2, 3, 4, 5);
        Check.force(x, 5, 4, 3, 2, 1, 0);
        x.step(0, 0);
        Check.dueStates("step", x, 5, 4, 3, 2, 1, 0);
    }

    static void passage2_effective_isCutOff() {
        Check.due("weights 5 3 3: 121 / 43", Check.weighed(5, 3, 3).told(2), 2);
        Check.due("weights 1 1 5: 49 / 27", Check.weighed(1, 1, 5).told(2), 1);
        Check.due("weights 4 4 4: 144 / 48", Check.weighed(4, 4, 4).told(2), 3);
    }

    static void passage2_effective_is0IfQIs0() {
        ResampledRows x = Check.weighed(0, 0, 0);
        Check.due("told(0)", x.told(0), 0);
        Check.due("told(1)", x.told(1), 0);
        Check.due("told(2)", x.told(2), 0);
    }

    static void passage2_effective_ofTheHeaviestRows() {
        ResampledRows x = aMillion(16, 1);
        Check.due("told(0)", x.told(0), 16000000L);
        Check.due("told(1)", x.told(1), 16000000000000L);
        Check.due("told(2)", x.told(2), 16);
    }

    static void promise08_keep_withoutARunIsGone() {
        Bounds.refused("keep(0)", ResampledRows::new, x -> x.keep(0), Check.GONE);
        Bounds.refused("keep(NONE)", ResampledRows::new, x -> x.keep(Check.NONE), Check.GONE);
    }

    static void promise08_keep_goneComesBeforeUnknown() {
        Bounds.refused("keep(-1)", ResampledRows::new, x -> x.keep(-1), Check.GONE);
        Bounds.refused("keep(16)", ResampledRows::new, x -> x.keep(16), Check.GONE);
    }

    static void promise08_keep_theFirstAndTheLastRow() {
        ResampledRows x = Check.standing(1, 2, 3);
        Check.due("keep(0)", x.keep(0), Check.NONE);
        Check.due("count(4)", x.count(4), 0);
        Check.due("keep(2)", x.keep(2), 0);
        Check.due("count(4)", x.count(4), 2);
        ResampledRows most = new ResampledRows();
        most.begin(16, 1L);
        Check.due("keep(15)", most.keep(15), Check.NONE);
        Check.due("keep(15) again", most.keep(15), 15);
    }

    static void promise08_keep_belowTheFirstRowIsUnknown() {
        Bounds.refused("keep(-1)", BoundsStepTest::threeRows, x -> x.keep(-1), Check.UNKNOWN);
        Bounds.refused("keep(min)", BoundsStepTest::threeRows, x -> x.keep(Bounds.MIN), Check.UNKNOWN);
    }

    static void promise08_keep_behindTheLastRowIsUnknown() {
        Bounds.refused("keep(3)", BoundsStepTest::threeRows, x -> x.keep(3), Check.UNKNOWN);
        Bounds.refused("keep(16)", BoundsStepTest::threeRows, x -> x.keep(16), Check.UNKNOWN);
        Bounds.refused("keep(max)", BoundsStepTest::threeRows, x -> x.keep(Bounds.MAX), Check.UNKNOWN);
    }

    static void promise08_keep_noOtherNumberBelow0IsNone() {
        Bounds.refused("keep(-1000008)", BoundsStepTest::threeRows, x -> x.keep(-1000008), Check.UNKNOWN);
        Bounds.refused("keep(-1000010)", BoundsStepTest::threeRows, x -> x.keep(-1000010), Check.UNKNOWN);
    }

    static void promise08_keep_noneEndsIt() {
        ResampledRows x = threeRows();
        Check.due("keep(NONE)", x.keep(Check.NONE), 1);
        Check.due("count(4)", x.count(4), Check.NONE);
        Check.due("keep(NONE) again", x.keep(Check.NONE), Check.NONE);
    }

    static void promise08_keep_onlyOneRowIsKept() {
        ResampledRows x = Check.weighed(0, 0, 0, 4);
        x.keep(0);
        x.keep(2);
        Check.due("again(0)", x.again(0), 2);
        Check.dueFrom("the latest one alone is kept", x, 2, 3, 3, 3);
    }

    static void promise09_step_withoutARunIsGone() {
        Bounds.refused("step(0, 0)", ResampledRows::new, x -> x.step(0, 0), Check.GONE);
    }

    static void promise09_step_noRunComesBeforeUnknownAndOutside() {
        Bounds.refused("step(5, 0)", ResampledRows::new, x -> x.step(5, 0), Check.GONE);
        Bounds.refused("step(0, 4)", ResampledRows::new, x -> x.step(0, 4), Check.GONE);
        Bounds.refused("step(-1, -1)", ResampledRows::new, x -> x.step(-1, -1), Check.GONE);
    }

    static void promise09_step_sightsGoFrom0To4() {
        for (int sight = 0; sight < 5; sight++) {
            ResampledRows x = threeRows();
            x.seen(sight, 4, 7);
            Check.due("step(" + sight + ", 0)", x.step(sight, 0), 1);
            Check.due("weight(0)", x.weight(0), 7);
            Check.due("weight(1)", x.weight(1), 1);
        }
    }

    static void promise09_step_sightBelow0IsUnknown() {
        Bounds.refused("step(-1, 0)", BoundsStepTest::threeRows, x -> x.step(-1, 0), Check.UNKNOWN);
        Bounds.refused("step(min, 0)", BoundsStepTest::threeRows, x -> x.step(Bounds.MIN, 0), Check.UNKNOWN);
    }

    static void promise09_step_sightAbove4IsUnknown() {
        Bounds.refused("step(5, 0)", BoundsStepTest::threeRows, x -> x.step(5, 0), Check.UNKNOWN);
        Bounds.refused("step(max, 0)", BoundsStepTest::threeRows, x -> x.step(Bounds.MAX, 0), Check.UNKNOWN);
    }

    static void promise09_step_namesGoFrom0To3() {
        for (int name = 0; name < 4; name++) {
            ResampledRows x = threeRows();
            for (int state = 1; state < 4; state++) {
                x.named(state, name);
            }
            Check.due("step(0, " + name + ")", x.step(0, name), 1);
        }
    }

    static void promise09_step_nameBelow0IsOutside() {
        Bounds.refused("step(0, -1)", BoundsStepTest::threeRows, x -> x.step(0, -1), Check.OUTSIDE);
        Bounds.refused("step(0, min)", BoundsStepTest::threeRows, x -> x.step(0, Bounds.MIN), Check.OUTSIDE);
    }

    static void promise09_step_nameAbove3IsOutside() {
        Bounds.refused("step(0, 4)", BoundsStepTest::threeRows, x -> x.step(0, 4), Check.OUTSIDE);
        Bounds.refused("step(0, max)", BoundsStepTest::threeRows, x -> x.step(0, Bounds.MAX), Check.OUTSIDE);
    }

    static void promise09_step_unknownComesBeforeOutside() {
        Bounds.refused("step(5, 4)", BoundsStepTest::threeRows, x -> x.step(5, 4), Check.UNKNOWN);
        Bounds.refused("step(-1, -1)", BoundsStepTest::threeRows, x -> x.step(-1, -1), Check.UNKNOWN);
    }

    static void promise09_step_unknownAndOutsideComeBeforeTheNameThatIsNotShared() {
        Bounds.refused("step(5, 1)", BoundsStepTest::threeRows, x -> x.step(5, 1), Check.UNKNOWN);
        Bounds.refused("step(0, 4)", () -> otherNameOf(2), x -> x.step(0, 4), Check.OUTSIDE);
    }

    static void promise09_step_oneRowOfAnotherNameIsGone() {
        for (int state = 1; state < 4; state++) {
            int odd = state;
            Bounds.refused("step(0, 0), STATE " + odd + " apart", () -> otherNameOf(odd), x -> x.step(0, 0), Check.GONE);
            Bounds.refused("step(0, 2), STATE " + odd + " alone", () -> otherNameOf(odd), x -> x.step(0, 2), Check.GONE);
        }
    }

    static void promise09_step_aNameThatNoRowHasIsGone() {
        Bounds.refused("step(0, 1)", BoundsStepTest::threeRows, x -> x.step(0, 1), Check.GONE);
        Bounds.refused("step(0, 3)", BoundsStepTest::threeRows, x -> x.step(0, 3), Check.GONE);
    }

    static void promise09_step_namesOfStatesWithoutARowDoNotMatter() {
        ResampledRows x = threeRows();
        x.named(0, 3);
        x.named(4, 3);
        x.named(5, 3);
        Check.due("step(0, 0)", x.step(0, 0), 1);
    }

    static void promise09_step_theNameIsThatOfTheStateNotOfTheHistory() {
        ResampledRows x = otherNameOf(5);
        x.write(0, 0, 5);
        Check.due("step(0, 0)", x.step(0, 0), 1);
    }

    static void promise09_step_the30thIsDone() {
        ResampledRows x = thirtySteps();
        Check.due("count(1)", x.count(1), 30);
        Check.due("row(1, 1)", x.row(1, 1), 31);
        Check.due("history(1, 30)", x.history(1, 30), x.row(1, 0));
    }

    static void promise09_step_the31stIsGone() {
        Bounds.refused("step(0, 0)", BoundsStepTest::thirtySteps, x -> x.step(0, 0), Check.GONE);
    }

    static void promise09_step_the31stIsGoneBehindAgain() {
        ResampledRows x = thirtySteps();
        x.again(2);
        Check.due("step(0, 0)", x.step(0, 0), Check.GONE);
        Check.due("count(1)", x.count(1), 30);
    }

    static void promise09_step_unknownAndOutsideComeBeforeThe31st() {
        Bounds.refused("step(5, 0)", BoundsStepTest::thirtySteps, x -> x.step(5, 0), Check.UNKNOWN);
        Bounds.refused("step(0, 4)", BoundsStepTest::thirtySteps, x -> x.step(0, 4), Check.OUTSIDE);
    }

    static void promise09_step_the31stComesBeforeLost() {
        Bounds.Maker stuck = () -> {
            ResampledRows x = thirtySteps();
            for (int state = 0; state < 6; state++) {
                for (int to = 0; to < 6; to++) {
                    x.move(state, to, 0);
                }
            }
            return x;
        };
        Bounds.refused("step(0, 0)", stuck, x -> x.step(0, 0), Check.GONE);
    }

    static void promise09_step_aNewRunHas30OfItsOwn() {
        ResampledRows x = thirtySteps();
        x.begin(1, 5L);
        for (int k = 1; k <= 30; k++) {
            Check.due("step " + k + " of the second run", x.step(0, 0), k);
        }
        Check.due("step 31 of the second run", x.step(0, 0), Check.GONE);
    }

    static void promise09_step_refusedOnesDoNotCount() {
        ResampledRows x = thirtySteps();
        x.begin(1, 5L);
        for (int k = 1; k < 30; k++) {
            x.step(0, 0);
            x.step(0, 1);
            x.step(5, 0);
        }
        Check.due("step 30", x.step(0, 0), 30);
    }

    static void promise09_step_theNameComesBeforeLost() {
        Bounds.refused("step(0, 1)", () -> stuckIn(1), x -> x.step(0, 1), Check.GONE);
    }

    static void promise09_step_aFirstRowThatIsLostMakesNoDraw() {
        Bounds.refused("step(0, 0)", () -> stuckIn(1), x -> x.step(0, 0), Check.LOST);
    }

    static void promise09_step_aLastRowThatIsLostLeavesTheDrawsBeforeItMade() {
        ResampledRows x = stuckIn(3);
        Check.due("step(0, 0)", x.step(0, 0), Check.LOST);
        Check.due("count(3)", x.count(3), 1);
        Bounds.alike("all but the two draws", x, stuckWithout(3, 2));
    }

    static void promise09_step_aMiddleRowThatIsLostMakesNoDrawBehindIt() {
        ResampledRows x = stuckIn(2);
        Check.due("step(0, 0)", x.step(0, 0), Check.LOST);
        Check.due("count(3)", x.count(3), 2);
        Bounds.alike("all but the one draw", x, stuckWithout(2, 1));
    }

    /** As stuckIn, had so many of those forced (4, 5, 0) never been forced. */
    private static ResampledRows stuckWithout(int state, int drawn) {
        ResampledRows x = Check.standing(1, 2, 3);
        x.keep(1);
        int[] forced = {4, 5, 0};
        for (int k = drawn; k < 3; k++) {
            x.force(forced[k]);
        }
        for (int to = 0; to < 6; to++) {
            x.move(state, to, 0);
        }
        return x;
    }

    static void promise09_step_aLostOneLeavesXMovedOn() {
        ResampledRows x = Check.standing(1, 2, 3);
        for (int to = 0; to < 6; to++) {
            x.move(3, to, 0);
        }
        Check.due("step(0, 0)", x.step(0, 0), Check.LOST);
        Check.dueStates("nothing moved", x, 1, 2, 3);
        x.move(3, 4, 1);
        Check.due("step(0, 0)", x.step(0, 0), 1);
        Check.dueStates("the third and the fourth draw", x, Bounds.drawOf(1L, 2, 6), Bounds.drawOf(1L, 3, 6), 4);
    }

    static void promise09_step_movesGoByTheStateBeforeIt() {
        ResampledRows x = Check.standing(1, 4);
        for (int to = 0; to < 6; to++) {
            x.move(1, to, to == 4 ? 1 : 0);
            x.move(4, to, to == 1 ? 1 : 0);
        }
        x.step(0, 0);
        Check.dueStates("1 to 4 and 4 to 1", x, 4, 1);
    }

    static void promise09_step_weightsGoByTheStateBehindIt() {
        ResampledRows x = threeRows();
        x.seen(0, 1, 9);
        x.seen(0, 4, 3);
        x.step(0, 0);
        Check.due("weight(0)", x.weight(0), 3);
        Check.due("weight(2)", x.weight(2), 1);
    }

    static void promise09_step_aWeightOf1000000IsNotMuch() {
        ResampledRows x = aMillion(1, 1);
        Check.due("weight(0)", x.weight(0), 1000000);
        Check.due("step(4, 0)", x.step(4, 0), 9);
        Check.due("weight(0)", x.weight(0), 1000000);
    }

    /** 9 9 9 7 7 7 4 is 1000188, the next above 1000000 that can be reached. */
    static void promise09_step_aWeightAbove1000000IsMuch() {
        ResampledRows x = heavy(1, 4, 9, 9, 9, 7, 7, 7);
        Check.due("weight(0)", x.weight(0), 250047);
        Check.due("step(4, 0)", x.step(4, 0), Check.MUCH);
        Check.due("weight(0)", x.weight(0), 250047);
        x.seen(4, 0, 3);
        Check.due("step(4, 0)", x.step(4, 0), 7);
        Check.due("weight(0)", x.weight(0), 750141);
    }

    static void promise09_step_nineTimes1000000IsMuch() {
        ResampledRows x = aMillion(2, 9);
        Check.due("step(4, 0)", x.step(4, 0), Check.MUCH);
        Check.due("count(1)", x.count(1), 8);
        Check.due("told(0)", x.told(0), 2000000);
    }

    static void promise09_step_naughtTimes1000000IsNotMuch() {
        ResampledRows x = aMillion(2, 0);
        Check.due("step(4, 0)", x.step(4, 0), 9);
        Check.due("weight(0)", x.weight(0), 0);
        x.seen(4, 0, 9);
        Check.due("step(4, 0)", x.step(4, 0), 10);
        Check.due("weight(1)", x.weight(1), 0);
    }

    static void promise09_step_theSumOfWeightsIsNeverMuch() {
        ResampledRows x = aMillion(16, 1);
        Check.due("step(4, 0)", x.step(4, 0), 9);
        Check.due("told(0)", x.told(0), 16000000);
    }

    /** Only the last of two ROWS would be too heavy. */
    private static ResampledRows muchOfTheLast() {
        ResampledRows x = aMillion(2, 1);
        x.move(0, 1, 1);
        x.seen(4, 1, 2);
        x.keep(1);
        return x;
    }

    static void promise09_step_muchOfOneRowLeavesAllRowsAsTheyWere() {
        ResampledRows x = muchOfTheLast();
        x.seen(4, 0, 0);
        Check.force(x, 0, 1);
        Check.due("step(4, 0)", x.step(4, 0), Check.MUCH);
        ResampledRows y = muchOfTheLast();
        y.seen(4, 0, 0);
        Bounds.alike("all but the draws", x, y);
    }

    static void promise09_step_muchLeavesAllDrawsMade() {
        ResampledRows x = muchOfTheLast();
        Check.force(x, 1, 0, 0);
        Check.due("step(4, 0): the first row is too heavy", x.step(4, 0), Check.MUCH);
        Check.due("count(3)", x.count(3), 1);
    }

    /** Two ROWS that were drawn anew, weighed 1000000 since then; only the last one would be too heavy. */
    private static ResampledRows muchBehindAgain() {
        ResampledRows x = heavy(2, 0, 1);
        x.again(2);
        int[] weights = {8, 8, 5, 5, 5, 5, 5, 5};
        for (int w : weights) {
            x.seen(0, 0, w);
            x.step(0, 0);
        }
        x.move(0, 1, 1);
        x.seen(4, 1, 2);
        return x;
    }

    static void promise09_step_muchBehindADrawingAnewLeavesAllRowsAsTheyWere() {
        ResampledRows x = muchBehindAgain();
        Check.force(x, 0, 1);
        Check.due("step(4, 0)", x.step(4, 0), Check.MUCH);
        Check.due("weight(0)", x.weight(0), 1000000);
        Bounds.alike("all but the draws", x, muchBehindAgain());
    }

    static void promise09_step_lostBehindADrawingAnewLeavesAllRowsAsTheyWere() {
        ResampledRows x = stuckIn(3);
        x.again(3);
        Check.dueStates("each one once", x, 1, 2, 3);
        Check.due("step(0, 0)", x.step(0, 0), Check.LOST);
        Check.dueStates("nothing moved", x, 1, 2, 3);
        Check.due("row(0, 1)", x.row(0, 1), 1);
        Check.due("history(0, 0)", x.history(0, 0), 1);
    }

    static void promise09_step_lostComesBeforeMuch() {
        ResampledRows x = muchOfTheLast();
        Check.force(x, 0, 1);
        Check.due("seen(0, 0, 1)", x.seen(0, 0, 1), 5);
        Check.due("step(0, 0)", x.step(0, 0), 9);
        Check.dueStates("one in each", x, 0, 1);
        for (int to = 0; to < 6; to++) {
            x.move(1, to, 0);
        }
        x.seen(4, 0, 9);
        Check.force(x, 0, 0);
        Check.due("step(4, 0): row 0 is too heavy, row 1 can't move", x.step(4, 0), Check.LOST);
        Check.due("count(3)", x.count(3), 1);
    }

    static void promise09_step_aRowWithoutWeightMovesOn() {
        ResampledRows x = Check.weighed(0, 2);
        Check.force(x, 3, 4);
        Check.due("step(1, 0)", x.step(1, 0), 2);
        Check.dueStates("both", x, 3, 4);
        Check.due("history(0, 2)", x.history(0, 2), 3);
    }
}
