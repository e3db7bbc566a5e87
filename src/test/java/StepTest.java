/** Promise 9: step. */
public final class StepTest {
    public static void main(String[] args) {
        stepMovesAndWeighs();
        stepTellsCodesInOrder();
        stepAsksForTheName();
        stepEndsAtThirty();
        lostStepIsNotDone();
        muchStepIsNotDone();
        weightOfAMillionIsTaken();
        weightOfNothingStays();
        Check.end();
    }

    private static void stepMovesAndWeighs() {
        ResampledRows x = Check.standing(0, 1, 0);
        int[] fromZero = {0, 2, 0, 0, 0, 3};
        for (int to = 0; to < 6; to++) {
            x.move(0, to, fromZero[to]);
        }
        x.seen(2, 1, 4);
        x.seen(2, 5, 7);
        x.seen(2, 4, 0);
        x.seen(2, 0, 9);
        Check.force(x, 1, 10, 2);
        Check.due("step(2, 0)", x.step(2, 0), 1);
        Check.dueStates("moved by their own moves", x, 1, 4, 5);
        Check.due("weight(0)", x.weight(0), 4);
        Check.due("weight(1)", x.weight(1), 0);
        Check.due("weight(2)", x.weight(2), 7);
        Check.force(x, 5, 0, 1);
        Check.due("step(2, 0)", x.step(2, 0), 2);
        Check.due("weight(0) times 7", x.weight(0), 28);
        Check.due("weight(1) stays 0", x.weight(1), 0);
        Check.due("weight(2) times 4", x.weight(2), 28);
        Check.due("history(2, 0)", x.history(2, 0), 0);
        Check.due("history(2, 1)", x.history(2, 1), 5);
        Check.due("history(2, 2)", x.history(2, 2), 1);
        Check.due("row(2, 1)", x.row(2, 1), 3);
    }

    private static void stepTellsCodesInOrder() {
        ResampledRows x = new ResampledRows();
        Check.due("no run", x.step(9, 9), Check.GONE);
        x.begin(2, 1L);
        Check.due("no sight, no name", x.step(5, 4), Check.UNKNOWN);
        Check.due("sight -1", x.step(-1, 0), Check.UNKNOWN);
        Check.due("name 4", x.step(4, 4), Check.OUTSIDE);
        Check.due("name -1", x.step(0, -1), Check.OUTSIDE);
        for (int state = 0; state < 6; state++) {
            for (int to = 0; to < 6; to++) {
                x.move(state, to, 0);
            }
        }
        Check.due("another name before lost", x.step(4, 1), Check.GONE);
        Check.due("lost", x.step(4, 0), Check.LOST);
        Check.due("no step was done", x.count(1), 0);
    }

    private static void stepAsksForTheName() {
        ResampledRows x = Check.standing(2, 3, 2);
        x.named(2, 3);
        Check.force(x, 2, 2, 2);
        Check.due("one stands elsewhere", x.step(0, 3), Check.GONE);
        Check.due("two stand elsewhere", x.step(0, 0), Check.GONE);
        Check.due("no draw was made", x.count(3), 3);
        x.named(3, 3);
        Check.due("all stand together", x.step(0, 3), 1);
        Check.dueStates("moved", x, 2, 2, 2);
        x.named(2, 1);
        Check.due("all have another name", x.step(0, 3), Check.GONE);
        Check.due("all have this name", x.step(0, 1), 2);
    }

    private static void stepEndsAtThirty() {
        ResampledRows x = new ResampledRows();
        x.begin(16, 77L);
        for (int k = 1; k <= 30; k++) {
            Check.due("step " + k, x.step(4, 0), k);
        }
        x.force(1);
        Check.due("step 31", x.step(4, 0), Check.GONE);
        Check.due("step 31 of no sight", x.step(5, 0), Check.UNKNOWN);
        Check.due("step 31 of no name", x.step(0, 4), Check.OUTSIDE);
        Check.due("no draw was made", x.count(3), 1);
        Check.due("steps", x.count(1), 30);
        Check.due("row(15, 1)", x.row(15, 1), 31);
        Check.due("history(15, 30)", x.history(15, 30), x.row(15, 0));
        Check.dueThrow("history(15, 31)", x, 15, 31);
        Check.due("again(2)", x.again(2), 16);
        Check.due("step 31 behind again", x.step(4, 0), Check.GONE);
        x.begin(16, 77L);
        Check.due("a new run steps", x.step(4, 0), 1);
    }

    private static void lostStepIsNotDone() {
        ResampledRows x = Check.standing(0, 1, 2, 0);
        for (int to = 0; to < 6; to++) {
            x.move(2, to, 0);
        }
        Check.force(x, 3, 4, 5, 1, 2);
        Check.due("step with a lost row", x.step(0, 0), Check.LOST);
        Check.due("draws of the rows before it were made", x.count(3), 3);
        Check.dueStates("nothing moved", x, 0, 1, 2, 0);
        Check.due("steps", x.count(1), 0);
        Check.due("row(0, 1)", x.row(0, 1), 1);
        x.move(2, 4, 2);
        Check.due("step with none lost", x.step(0, 0), 1);
        Check.dueStates("the draws left go on", x, 5, 1, 4, row3());
    }

    /** The first draw of seed 1 below 6, when those forced are used up. */
    private static int row3() {
        long chain = 1L * 6364136223846793005L + 1442695040888963407L;
        return (int) ((chain >>> 33) % 6);
    }

    private static void muchStepIsNotDone() {
        ResampledRows x = Check.standing(0, 0);
        x.seen(0, 0, 9);
        x.seen(0, 1, 1);
        for (int k = 1; k <= 6; k++) {
            Check.force(x, 0, 0);
            Check.due("step " + k, x.step(0, 0), k);
        }
        Check.force(x, 1, 0, 5);
        Check.due("one row would be too heavy", x.step(0, 0), Check.MUCH);
        Check.due("both draws were made", x.count(3), 1);
        Check.dueStates("nothing moved", x, 0, 0);
        Check.due("weight(0)", x.weight(0), 531441);
        Check.due("weight(1)", x.weight(1), 531441);
        Check.due("steps", x.count(1), 6);
        Check.due("row(0, 1)", x.row(0, 1), 7);
    }

    private static void weightOfAMillionIsTaken() {
        ResampledRows x = Check.standing(0);
        x.seen(0, 0, 8);
        x.seen(1, 0, 5);
        x.seen(2, 0, 2);
        int[] sights = {0, 0, 1, 1, 1, 1, 1, 1};
        for (int sight : sights) {
            x.force(0);
            x.step(sight, 0);
        }
        Check.due("weight(0)", x.weight(0), 1000000);
        Check.due("told(1)", x.told(1), 1000000000000L);
        x.force(0);
        Check.due("twice as much", x.step(2, 0), Check.MUCH);
        x.force(1);
        Check.due("as much again", x.step(2, 0), 9);
        Check.due("weight(0) stays", x.weight(0), 1000000);
    }

    private static void weightOfNothingStays() {
        ResampledRows x = Check.weighed(0, 0);
        Check.due("step", x.step(1, 0), 2);
        Check.due("weight(0)", x.weight(0), 0);
        Check.due("told(0)", x.told(0), 0);
    }
}
