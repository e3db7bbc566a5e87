/** The bounds of promises 13 to 19: row, weight, history, write, told, evidence, count. */
public final class BoundsReadingTest {
    public static void main(String[] args) {
        Bounds.runAll(BoundsReadingTest.class);
    }

    /** Two ROWS, 4 1 and 5 3 by their HISTORIES, with the WEIGHTS 1 and 3. */
    private static ResampledRows two() {
        ResampledRows x = Check.standing(4, 5);
        x.seen(0, 3, 3);
        Check.force(x, 1, 3);
        x.step(0, 0);
        x.force(2);
        return x;
    }

    private static ResampledRows thirtySteps() {
        ResampledRows x = new ResampledRows();
        x.begin(1, 5L);
        for (int k = 0; k < 30; k++) {
            x.step(0, 0);
        }
        return x;
    }

    static void promise13_row_withoutARunIsGone() {
        Check.due("row(0, 0)", new ResampledRows().row(0, 0), Check.GONE);
        Check.due("row(0, 1)", new ResampledRows().row(0, 1), Check.GONE);
    }

    static void promise13_row_goneComesBeforeUnknownAndOutside() {
        Check.due("row(-1, 0)", new ResampledRows().row(-1, 0), Check.GONE);
        Check.due("row(0, 2)", new ResampledRows().row(0, 2), Check.GONE);
    }

    static void promise13_row_theFirstAndTheLastRow() {
        ResampledRows x = two();
        Check.due("row(0, 0)", x.row(0, 0), 1);
        Check.due("row(1, 0)", x.row(1, 0), 3);
        ResampledRows most = new ResampledRows();
        most.begin(16, 0L);
        Check.due("row(0, 0) of 16", most.row(0, 0), 5);
        Check.due("row(15, 0) of 16", most.row(15, 0), Bounds.drawOf(0L, 15, 6));
    }

    static void promise13_row_belowTheFirstRowIsUnknown() {
        Bounds.refused("row(-1, 0)", BoundsReadingTest::two, x -> x.row(-1, 0), Check.UNKNOWN);
        Bounds.refused("row(min, 1)", BoundsReadingTest::two, x -> x.row(Bounds.MIN, 1), Check.UNKNOWN);
    }

    static void promise13_row_behindTheLastRowIsUnknown() {
        Bounds.refused("row(2, 0)", BoundsReadingTest::two, x -> x.row(2, 0), Check.UNKNOWN);
        Bounds.refused("row(16, 1)", BoundsReadingTest::two, x -> x.row(16, 1), Check.UNKNOWN);
        Bounds.refused("row(max, 1)", BoundsReadingTest::two, x -> x.row(Bounds.MAX, 1), Check.UNKNOWN);
    }

    static void promise13_row_anotherWhatIsOutside() {
        Bounds.refused("row(0, -1)", BoundsReadingTest::two, x -> x.row(0, -1), Check.OUTSIDE);
        Bounds.refused("row(1, 2)", BoundsReadingTest::two, x -> x.row(1, 2), Check.OUTSIDE);
        Bounds.refused("row(1, min)", BoundsReadingTest::two, x -> x.row(1, Bounds.MIN), Check.OUTSIDE);
        Bounds.refused("row(1, max)", BoundsReadingTest::two, x -> x.row(1, Bounds.MAX), Check.OUTSIDE);
    }

    static void promise13_row_unknownComesBeforeOutside() {
        Bounds.refused("row(-1, -1)", BoundsReadingTest::two, x -> x.row(-1, -1), Check.UNKNOWN);
        Bounds.refused("row(2, 2)", BoundsReadingTest::two, x -> x.row(2, 2), Check.UNKNOWN);
    }

    static void promise13_row_historyIsFrom1To31Long() {
        ResampledRows x = new ResampledRows();
        x.begin(1, 5L);
        Check.due("at first", x.row(0, 1), 1);
        Check.due("after 30 steps", thirtySteps().row(0, 1), 31);
    }

    static void promise13_row_aRefusedStepMakesNoHistoryLonger() {
        ResampledRows x = two();
        x.step(0, 1);
        x.step(5, 0);
        Check.due("row(0, 1)", x.row(0, 1), 2);
    }

    static void promise14_weight_withoutARunIsGone() {
        Check.due("weight(0)", new ResampledRows().weight(0), -1000003L);
        Check.due("weight(-1)", new ResampledRows().weight(-1), -1000003L);
        Check.due("weight(16)", new ResampledRows().weight(16), -1000003L);
    }

    static void promise14_weight_theFirstAndTheLastRow() {
        ResampledRows x = two();
        Check.due("weight(0)", x.weight(0), 1);
        Check.due("weight(1)", x.weight(1), 3);
    }

    static void promise14_weight_aRowThatThereIsNotIsUnknown() {
        Bounds.refused("weight(-1)", BoundsReadingTest::two, x -> x.weight(-1), -1000001L);
        Bounds.refused("weight(2)", BoundsReadingTest::two, x -> x.weight(2), -1000001L);
        Bounds.refused("weight(16)", BoundsReadingTest::two, x -> x.weight(16), -1000001L);
        Bounds.refused("weight(min)", BoundsReadingTest::two, x -> x.weight(Bounds.MIN), -1000001L);
        Bounds.refused("weight(max)", BoundsReadingTest::two, x -> x.weight(Bounds.MAX), -1000001L);
    }

    static void promise15_history_withoutARunIsGone() {
        Check.due("history(0, 0)", new ResampledRows().history(0, 0), Check.GONE);
    }

    static void promise15_history_goneComesBeforeUnknownAndTheException() {
        Check.due("history(-1, 0)", new ResampledRows().history(-1, 0), Check.GONE);
        Check.due("history(0, -1)", new ResampledRows().history(0, -1), Check.GONE);
        Check.due("history(0, 31)", new ResampledRows().history(0, 31), Check.GONE);
    }

    static void promise15_history_aRowThatThereIsNotIsUnknown() {
        Bounds.refused("history(-1, 0)", BoundsReadingTest::two, x -> x.history(-1, 0), Check.UNKNOWN);
        Bounds.refused("history(2, 0)", BoundsReadingTest::two, x -> x.history(2, 0), Check.UNKNOWN);
        Bounds.refused("history(max, 0)", BoundsReadingTest::two, x -> x.history(Bounds.MAX, 0), Check.UNKNOWN);
    }

    static void promise15_history_unknownComesBeforeTheException() {
        Bounds.refused("history(-1, -1)", BoundsReadingTest::two, x -> x.history(-1, -1), Check.UNKNOWN);
        Bounds.refused("history(2, 2)", BoundsReadingTest::two, x -> x.history(2, 2), Check.UNKNOWN);
    }

    static void promise15_history_theFirstAndTheLastPlace() {
        ResampledRows x = two();
        Check.due("history(0, 0)", x.history(0, 0), 4);
        Check.due("history(0, 1)", x.history(0, 1), 1);
        Check.due("history(1, 0)", x.history(1, 0), 5);
        Check.due("history(1, 1)", x.history(1, 1), 3);
    }

    static void promise15_history_aPlaceBelow0Throws() {
        ResampledRows x = two();
        Check.dueThrow("history(0, -1)", x, 0, -1);
        Check.dueThrow("history(1, min)", x, 1, Bounds.MIN);
    }

    static void promise15_history_aPlaceBehindTheLastThrows() {
        ResampledRows x = two();
        Check.dueThrow("history(0, 2)", x, 0, 2);
        Check.dueThrow("history(1, 30)", x, 1, 30);
        Check.dueThrow("history(1, 31)", x, 1, 31);
        Check.dueThrow("history(1, max)", x, 1, Bounds.MAX);
    }

    static void promise15_history_theLastPlaceAfter30Steps() {
        ResampledRows x = thirtySteps();
        Check.due("history(0, 30)", x.history(0, 30), x.row(0, 0));
        Check.dueThrow("history(0, 31)", x, 0, 31);
    }

    static void promise15_history_placesOfAnOlderRunThrow() {
        ResampledRows x = thirtySteps();
        x.begin(1, 5L);
        Check.due("history(0, 0)", x.history(0, 0), x.row(0, 0));
        Check.dueThrow("history(0, 1)", x, 0, 1);
        Check.dueThrow("history(0, 30)", x, 0, 30);
    }

    static void promise15_history_placesOfARefusedStepThrow() {
        ResampledRows x = two();
        for (int to = 0; to < 6; to++) {
            x.move(3, to, 0);
        }
        Check.due("step(0, 0)", x.step(0, 0), Check.LOST);
        Check.dueThrow("history(0, 2)", x, 0, 2);
    }

    static void promise15_history_throwingChangesNothing() {
        ResampledRows x = two();
        Check.dueThrow("history(0, 2)", x, 0, 2);
        Check.dueThrow("history(0, -1)", x, 0, -1);
        Bounds.alike("history that throws", x, two());
    }

    static void promise16_write_withoutARunIsGone() {
        Bounds.refused("write(0, 0, 0)", ResampledRows::new, x -> x.write(0, 0, 0), Check.GONE);
    }

    static void promise16_write_goneComesBeforeUnknownAndOutside() {
        Bounds.refused("write(-1, 0, 0)", ResampledRows::new, x -> x.write(-1, 0, 0), Check.GONE);
        Bounds.refused("write(0, 0, 6)", ResampledRows::new, x -> x.write(0, 0, 6), Check.GONE);
        Bounds.refused("write(0, -1, 0)", ResampledRows::new, x -> x.write(0, -1, 0), Check.GONE);
    }

    static void promise16_write_aRowThatThereIsNotIsUnknown() {
        Bounds.refused("write(-1, 0, 0)", BoundsReadingTest::two, x -> x.write(-1, 0, 0), Check.UNKNOWN);
        Bounds.refused("write(2, 0, 0)", BoundsReadingTest::two, x -> x.write(2, 0, 0), Check.UNKNOWN);
        Bounds.refused("write(max, 0, 0)", BoundsReadingTest::two, x -> x.write(Bounds.MAX, 0, 0), Check.UNKNOWN);
    }

    static void promise16_write_stateBelow0IsUnknown() {
        Bounds.refused("write(0, 0, -1)", BoundsReadingTest::two, x -> x.write(0, 0, -1), Check.UNKNOWN);
        Bounds.refused("write(0, 0, min)", BoundsReadingTest::two, x -> x.write(0, 0, Bounds.MIN), Check.UNKNOWN);
    }

    static void promise16_write_stateAbove5IsUnknown() {
        Bounds.refused("write(0, 0, 6)", BoundsReadingTest::two, x -> x.write(0, 0, 6), Check.UNKNOWN);
        Bounds.refused("write(0, 0, max)", BoundsReadingTest::two, x -> x.write(0, 0, Bounds.MAX), Check.UNKNOWN);
    }

    static void promise16_write_aPlaceBelow0IsOutside() {
        Bounds.refused("write(0, -1, 2)", BoundsReadingTest::two, x -> x.write(0, -1, 2), Check.OUTSIDE);
        Bounds.refused("write(1, min, 2)", BoundsReadingTest::two, x -> x.write(1, Bounds.MIN, 2), Check.OUTSIDE);
    }

    static void promise16_write_aPlaceBehindTheLastIsOutside() {
        Bounds.refused("write(0, 2, 2)", BoundsReadingTest::two, x -> x.write(0, 2, 2), Check.OUTSIDE);
        Bounds.refused("write(1, 31, 2)", BoundsReadingTest::two, x -> x.write(1, 31, 2), Check.OUTSIDE);
        Bounds.refused("write(1, max, 2)", BoundsReadingTest::two, x -> x.write(1, Bounds.MAX, 2), Check.OUTSIDE);
    }

    static void promise16_write_unknownComesBeforeOutside() {
        Bounds.refused("write(2, 2, 2)", BoundsReadingTest::two, x -> x.write(2, 2, 2), Check.UNKNOWN);
        Bounds.refused("write(0, 2, 6)", BoundsReadingTest::two, x -> x.write(0, 2, 6), Check.UNKNOWN);
        Bounds.refused("write(0, -1, -1)", BoundsReadingTest::two, x -> x.write(0, -1, -1), Check.UNKNOWN);
    }

    static void promise16_write_theFirstAndTheLastPlaceAndState() {
        ResampledRows x = two();
        Check.due("write(0, 0, 0)", x.write(0, 0, 0), 1);
        Check.due("write(1, 1, 5)", x.write(1, 1, 5), 1);
        Check.due("history(0, 0)", x.history(0, 0), 0);
        Check.due("history(0, 1)", x.history(0, 1), 1);
        Check.due("history(1, 0)", x.history(1, 0), 5);
        Check.due("history(1, 1)", x.history(1, 1), 5);
        ResampledRows most = thirtySteps();
        int other = (most.row(0, 0) + 1) % 6;
        Check.due("write(0, 30, other)", most.write(0, 30, other), 1);
        Check.due("history(0, 30)", most.history(0, 30), other);
    }

    static void promise16_write_whatStoodThereAlreadyTells1() {
        Bounds.refused("write(0, 0, 4)", BoundsReadingTest::two, x -> x.write(0, 0, 4), 1);
    }

    static void promise16_write_theStateStays() {
        ResampledRows x = two();
        x.write(1, 1, 0);
        Check.due("row(1, 0)", x.row(1, 0), 3);
        Check.due("weight(1)", x.weight(1), 3);
        Check.due("row(1, 1)", x.row(1, 1), 2);
        for (int to = 0; to < 6; to++) {
            x.move(0, to, 0);
        }
        Check.due("a step goes from the STATE", x.step(0, 0), 2);
    }

    /** Both ROWS became ROW 1, and each HISTORY is its own all the same, also when drawn anew once more. */
    static void promise16_write_ofThisRowAloneBehindADrawingAnew() {
        for (int way = 0; way < 4; way++) {
            ResampledRows x = Check.weighed(0, 3);
            x.again(way);
            Check.dueFrom("way " + way, x, 1, 1);
            x.write(0, 0, 5);
            Check.due("history(0, 0)", x.history(0, 0), 5);
            Check.due("history(1, 0)", x.history(1, 0), 0);
            x.write(1, 1, 4);
            Check.due("history(0, 1)", x.history(0, 1), 3);
            x.again(2);
            Check.dueFrom("each one once", x, 0, 1);
            x.write(1, 0, 2);
            x.step(1, 0);
            Check.due("history(0, 0) stays", x.history(0, 0), 5);
            Check.due("history(1, 0)", x.history(1, 0), 2);
            Check.due("history(1, 1)", x.history(1, 1), 4);
        }
    }

    static void promise16_write_goesAlongWhenDrawnAnew() {
        ResampledRows x = two();
        x.write(1, 0, 2);
        Check.force(x, 3, 3);
        x.again(0);
        Check.dueFrom("draws 2 3 by 1 3", x, 1, 1);
        Check.due("history(0, 0)", x.history(0, 0), 2);
        Check.due("history(1, 0)", x.history(1, 0), 2);
        Check.due("row(0, 0)", x.row(0, 0), 3);
    }

    static void promise17_told_withoutARunIsGone() {
        for (int what = 0; what < 3; what++) {
            Check.due("told(" + what + ")", new ResampledRows().told(what), -1000003L);
        }
    }

    static void promise17_told_goneComesBeforeOutside() {
        Check.due("told(-1)", new ResampledRows().told(-1), -1000003L);
        Check.due("told(3)", new ResampledRows().told(3), -1000003L);
    }

    static void promise17_told_anotherWhatIsOutside() {
        Bounds.refused("told(-1)", BoundsReadingTest::two, x -> x.told(-1), -1000002L);
        Bounds.refused("told(3)", BoundsReadingTest::two, x -> x.told(3), -1000002L);
        Bounds.refused("told(min)", BoundsReadingTest::two, x -> x.told(Bounds.MIN), -1000002L);
        Bounds.refused("told(max)", BoundsReadingTest::two, x -> x.told(Bounds.MAX), -1000002L);
    }

    static void promise17_told_theLeastAndTheMostOfRows() {
        ResampledRows x = new ResampledRows();
        x.begin(1, 1L);
        ResampledRows y = new ResampledRows();
        y.begin(16, 1L);
        for (int what = 0; what < 3; what++) {
            Check.due("told(" + what + ") of one row", x.told(what), 1);
            Check.due("told(" + what + ") of 16 rows", y.told(what), 16);
        }
    }

    static void promise17_told_squaresAreNotTheSquareOfTheSum() {
        ResampledRows x = Check.weighed(2, 3, 0);
        Check.due("told(0)", x.told(0), 5);
        Check.due("told(1)", x.told(1), 13);
        Check.due("told(2)", x.told(2), 1);
    }

    static void promise18_evidence_withoutARunIs0() {
        ResampledRows x = new ResampledRows();
        Check.dueDouble("a new object", x.evidence(), 0.0);
        x.begin(2, 1L);
        x.clear();
        Check.dueDouble("a cleared object", x.evidence(), 0.0);
    }

    static void promise18_evidence_isOneAtFirst() {
        for (int n = 1; n <= 16; n++) {
            ResampledRows x = new ResampledRows();
            x.begin(n, 1L);
            Check.dueDouble("begin(" + n + ", 1)", x.evidence(), 1.0);
        }
    }

    static void promise18_evidence_isNotCutOff() {
        Check.dueDouble("weights 1 3 4", Check.weighed(1, 3, 4).evidence(), 8 / 3.0);
        Check.dueDouble("weights 0 1", Check.weighed(0, 1).evidence(), 0.5);
    }

    static void promise18_evidence_is0WhenAllWeightsAre() {
        ResampledRows x = Check.weighed(0, 0);
        Check.dueDouble("evidence()", x.evidence(), 0.0);
        Check.due("again(0)", x.again(0), Check.LOST);
        Check.dueDouble("evidence() behind it", x.evidence(), 0.0);
    }

    static void promise18_evidence_readingItChangesNothing() {
        ResampledRows x = two();
        x.evidence();
        x.evidence();
        Check.dueDouble("evidence()", x.evidence(), 2.0);
        Bounds.alike("evidence() three times", x, two());
    }

    static void promise18_evidence_ofANewRunIsFromOneOn() {
        ResampledRows x = two();
        x.again(2);
        Check.dueDouble("evidence() of the first run", x.evidence(), 2.0);
        x.begin(2, 1L);
        Check.dueDouble("evidence() of the second run", x.evidence(), 1.0);
    }

    static void promise18_evidence_aRefusedStepLeavesIt() {
        ResampledRows x = two();
        x.step(0, 3);
        x.again(4);
        x.rule(0, 0);
        Check.dueDouble("evidence()", x.evidence(), 2.0);
    }

    static void promise19_count_rowsAre0WithoutARun() {
        ResampledRows x = new ResampledRows();
        Check.due("count(0)", x.count(0), 0);
        x.begin(16, 1L);
        Check.due("count(0) of 16", x.count(0), 16);
        x.clear();
        Check.due("count(0)", x.count(0), 0);
    }

    static void promise19_count_stepsGoFrom0To30() {
        ResampledRows x = new ResampledRows();
        x.begin(1, 1L);
        Check.due("count(1)", x.count(1), 0);
        Check.due("count(1) after 30 steps", thirtySteps().count(1), 30);
    }

    static void promise19_count_refusedStepsAndDrawingsDoNotCount() {
        ResampledRows x = Check.weighed(0, 0);
        x.again(0);
        x.again(4);
        x.rule(1, 50);
        x.step(0, 2);
        Check.due("count(1)", x.count(1), 1);
        Check.due("count(2)", x.count(2), 0);
    }

    static void promise19_count_aRuleThatDidNotDrawDoesNotCount() {
        ResampledRows x = two();
        x.rule(2, 1);
        Check.due("count(2)", x.count(2), 0);
        x.rule(2, 100);
        Check.due("count(2)", x.count(2), 1);
        x.again(2);
        Check.due("count(2)", x.count(2), 2);
    }

    static void promise19_count_forcedOnesGoFrom0To64() {
        ResampledRows x = new ResampledRows();
        Check.due("count(3)", x.count(3), 0);
        for (int k = 0; k < 65; k++) {
            x.force(1);
        }
        Check.due("count(3)", x.count(3), 64);
        x.begin(16, 1L);
        Check.due("count(3) when 16 were drawn", x.count(3), 48);
        for (int k = 0; k < 3; k++) {
            x.step(0, 0);
        }
        Check.due("count(3) when all were drawn", x.count(3), 0);
        x.step(0, 0);
        Check.due("count(3) when more were drawn", x.count(3), 0);
    }

    static void promise19_count_noneIsKeptAtFirst() {
        ResampledRows x = two();
        Check.due("count(4)", x.count(4), Check.NONE);
        x.keep(0);
        Check.due("count(4)", x.count(4), 0);
        x.keep(Check.NONE);
        Check.due("count(4)", x.count(4), Check.NONE);
    }

    static void promise19_count_anotherWhatIsOutside() {
        int[] others = {-1, 5, Bounds.MIN, Bounds.MAX};
        for (int what : others) {
            Bounds.refused("count(" + what + ")", BoundsReadingTest::two, x -> x.count(what), Check.OUTSIDE);
            Check.due("count(" + what + ") without a run", new ResampledRows().count(what), Check.OUTSIDE);
        }
    }
}
