/** Promises 13 to 19: row, weight, history, write, told, evidence, count. */
public final class ReadingTest {
    public static void main(String[] args) {
        allIsGoneWithoutARun();
        rowTellsStateAndLength();
        weightTellsTheRow();
        historyThrowsWithoutAPlace();
        writeChangesOnePlace();
        toldTellsSums();
        evidenceIsMultiplied();
        countTellsAll();
        Check.end();
    }

    private static void allIsGoneWithoutARun() {
        ResampledRows x = new ResampledRows();
        Check.due("row(-1, 9)", x.row(-1, 9), Check.GONE);
        Check.due("weight(-1)", x.weight(-1), Check.GONE);
        Check.due("history(-1, -1)", x.history(-1, -1), Check.GONE);
        Check.due("history(0, 99)", x.history(0, 99), Check.GONE);
        Check.due("write(-1, -1, -1)", x.write(-1, -1, -1), Check.GONE);
        Check.due("told(0)", x.told(0), Check.GONE);
        Check.due("told(9)", x.told(9), Check.GONE);
        Check.dueDouble("evidence()", x.evidence(), 0.0);
    }

    private static void rowTellsStateAndLength() {
        ResampledRows x = Check.standing(4, 5);
        Check.due("row(0, 0)", x.row(0, 0), 4);
        Check.due("row(1, 0)", x.row(1, 0), 5);
        Check.due("row(1, 1)", x.row(1, 1), 1);
        Check.due("row(2, 0)", x.row(2, 0), Check.UNKNOWN);
        Check.due("row(2, 2)", x.row(2, 2), Check.UNKNOWN);
        Check.due("row(-1, 0)", x.row(-1, 0), Check.UNKNOWN);
        Check.due("row(1, 2)", x.row(1, 2), Check.OUTSIDE);
        Check.due("row(1, -1)", x.row(1, -1), Check.OUTSIDE);
        Check.force(x, 1, 0);
        x.step(0, 0);
        Check.due("row(0, 0)", x.row(0, 0), 1);
        Check.due("row(0, 1)", x.row(0, 1), 2);
    }

    private static void weightTellsTheRow() {
        ResampledRows x = Check.weighed(5, 0, 3);
        Check.due("weight(0)", x.weight(0), 5);
        Check.due("weight(1)", x.weight(1), 0);
        Check.due("weight(2)", x.weight(2), 3);
        Check.due("weight(3)", x.weight(3), Check.UNKNOWN);
        Check.due("weight(-1)", x.weight(-1), Check.UNKNOWN);
        Check.due("weight(min)", x.weight(Integer.MIN_VALUE), Check.UNKNOWN);
    }

    private static void historyThrowsWithoutAPlace() {
        ResampledRows x = Check.standing(4, 5);
        Check.force(x, 1, 0);
        x.step(0, 0);
        Check.due("history(0, 0)", x.history(0, 0), 4);
        Check.due("history(0, 1)", x.history(0, 1), 1);
        Check.due("history(1, 0)", x.history(1, 0), 5);
        Check.due("history(1, 1)", x.history(1, 1), 0);
        Check.due("history(2, 0)", x.history(2, 0), Check.UNKNOWN);
        Check.due("history(-1, 99)", x.history(-1, 99), Check.UNKNOWN);
        Check.dueThrow("history(0, 2)", x, 0, 2);
        Check.dueThrow("history(1, -1)", x, 1, -1);
        Check.dueThrow("history(1, max)", x, 1, Integer.MAX_VALUE);
        Check.dueThrow("history(1, min)", x, 1, Integer.MIN_VALUE);
        x.begin(2, 1L);
        Check.dueThrow("history(0, 1) of a new run", x, 0, 1);
    }

    private static void writeChangesOnePlace() {
        ResampledRows x = Check.standing(4, 5);
        Check.due("write(1, 0, 2)", x.write(1, 0, 2), 1);
        Check.due("history(1, 0)", x.history(1, 0), 2);
        Check.due("history(0, 0)", x.history(0, 0), 4);
        Check.due("row(1, 0) stays", x.row(1, 0), 5);
        Check.due("write(2, 0, 2)", x.write(2, 0, 2), Check.UNKNOWN);
        Check.due("write(-1, 9, 2)", x.write(-1, 9, 2), Check.UNKNOWN);
        Check.due("write(0, 0, 6)", x.write(0, 0, 6), Check.UNKNOWN);
        Check.due("write(0, 9, -1)", x.write(0, 9, -1), Check.UNKNOWN);
        Check.due("write(0, 1, 3)", x.write(0, 1, 3), Check.OUTSIDE);
        Check.due("write(0, -1, 3)", x.write(0, -1, 3), Check.OUTSIDE);
        Check.due("history(0, 0)", x.history(0, 0), 4);
        for (int to = 0; to < 6; to++) {
            x.move(2, to, 0);
        }
        Check.due("a step goes from the state, not from what was written", x.step(0, 0), 1);
    }

    private static void toldTellsSums() {
        ResampledRows x = Check.weighed(5, 0, 3, 3);
        Check.due("told(0)", x.told(0), 11);
        Check.due("told(1)", x.told(1), 43);
        Check.due("told(2)", x.told(2), 2);
        Check.due("told(3)", x.told(3), Check.OUTSIDE);
        Check.due("told(-1)", x.told(-1), Check.OUTSIDE);
        x = Check.weighed(0, 0);
        Check.due("told(0)", x.told(0), 0);
        Check.due("told(1)", x.told(1), 0);
        Check.due("told(2)", x.told(2), 0);
        x = Check.standing(0, 0, 0);
        Check.due("told(2) at first", x.told(2), 3);
    }

    private static void evidenceIsMultiplied() {
        ResampledRows x = Check.standing(0, 0, 0);
        Check.dueDouble("evidence() at first", x.evidence(), 1.0);
        x = Check.weighed(5, 0, 2);
        Check.dueDouble("evidence() of a step", x.evidence(), 7 / 3.0);
        x.force(0);
        x.again(2);
        Check.dueDouble("evidence() drawn anew", x.evidence(), 7 / 3.0);
        Check.force(x, 3, 1, 1);
        x.step(0, 0);
        Check.dueDouble("evidence() of two steps", x.evidence(), 7 / 3.0 * (5 / 3.0));
        x.again(1);
        Check.force(x, 2, 2, 0);
        x.step(0, 0);
        Check.dueDouble("evidence() of three", x.evidence(), 7 / 3.0 * (5 / 3.0) * (4 / 3.0));
        Check.force(x, 0, 0, 0);
        x.step(0, 0);
        Check.dueDouble("evidence() of nothing", x.evidence(), 0.0);
        x.clear();
        Check.dueDouble("evidence() of no run", x.evidence(), 0.0);
    }

    private static void countTellsAll() {
        ResampledRows x = Check.standing(1, 2, 3, 4, 5);
        Check.force(x, 0, 0, 0, 0, 0, 7, 8);
        x.step(0, 0);
        x.step(0, 0);
        Check.force(x, 0, 0, 0);
        x.again(2);
        x.keep(3);
        Check.due("count(0)", x.count(0), 5);
        Check.due("count(1)", x.count(1), 2);
        Check.due("count(2)", x.count(2), 1);
        Check.due("count(3)", x.count(3), 2);
        Check.due("count(4)", x.count(4), 3);
        Check.due("count(5)", x.count(5), Check.OUTSIDE);
        Check.due("count(-1)", x.count(-1), Check.OUTSIDE);
        x = new ResampledRows();
        Check.due("count(5), no run", x.count(5), Check.OUTSIDE);
        x.force(0);
        Check.due("count(3), no run", x.count(3), 1);
    }
}
