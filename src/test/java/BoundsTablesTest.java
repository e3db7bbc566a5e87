/** The bounds of promises 1 to 5 and 20: a new object, start, move, seen, named, clear. */
public final class BoundsTablesTest {
    public static void main(String[] args) {
        Bounds.runAll(BoundsTablesTest.class);
    }

    /** Every table has a number of its own in every place that a test looks at; a RUN of 2 ROWS stands. */
    private static ResampledRows filled() {
        ResampledRows x = new ResampledRows();
        x.start(0, 2);
        x.start(5, 3);
        x.move(0, 0, 4);
        x.move(5, 5, 5);
        x.move(0, 5, 6);
        x.move(5, 0, 7);
        x.seen(0, 0, 8);
        x.seen(4, 5, 9);
        x.named(0, 1);
        x.named(5, 2);
        x.begin(2, 11L);
        x.force(3);
        return x;
    }

    static void promise01_newObject_startIsOneEverywhere() {
        ResampledRows x = new ResampledRows();
        for (int state = 0; state < 6; state++) {
            Check.due("start(" + state + ", 9)", x.start(state, 9), 1);
        }
    }

    static void promise01_newObject_moveIsOneEverywhere() {
        ResampledRows x = new ResampledRows();
        for (int from = 0; from < 6; from++) {
            for (int to = 0; to < 6; to++) {
                Check.due("move(" + from + ", " + to + ", 9)", x.move(from, to, 9), 1);
            }
        }
    }

    static void promise01_newObject_seenIsOneEverywhere() {
        ResampledRows x = new ResampledRows();
        for (int sight = 0; sight < 5; sight++) {
            for (int state = 0; state < 6; state++) {
                Check.due("seen(" + sight + ", " + state + ", 9)", x.seen(sight, state, 9), 1);
            }
        }
    }

    static void promise01_newObject_nameIsNaughtEverywhere() {
        ResampledRows x = new ResampledRows();
        for (int state = 0; state < 6; state++) {
            Check.due("named(" + state + ", 3)", x.named(state, 3), 0);
        }
    }

    static void promise01_newObject_hasNoRun() {
        Bounds.Maker maker = ResampledRows::new;
        Bounds.refused("keep(0)", maker, x -> x.keep(0), Check.GONE);
        Bounds.refused("step(0, 0)", maker, x -> x.step(0, 0), Check.GONE);
        Bounds.refused("again(0)", maker, x -> x.again(0), Check.GONE);
        Bounds.refused("rule(0, 100)", maker, x -> x.rule(0, 100), Check.GONE);
        Bounds.refused("from(0)", maker, x -> x.from(0), Check.GONE);
        Bounds.refused("row(0, 0)", maker, x -> x.row(0, 0), Check.GONE);
        Bounds.refused("weight(0)", maker, x -> x.weight(0), Check.GONE);
        Bounds.refused("history(0, 0)", maker, x -> x.history(0, 0), Check.GONE);
        Bounds.refused("write(0, 0, 0)", maker, x -> x.write(0, 0, 0), Check.GONE);
        Bounds.refused("told(0)", maker, x -> x.told(0), Check.GONE);
        Check.dueDouble("evidence()", new ResampledRows().evidence(), 0.0);
        Check.due("count(0)", new ResampledRows().count(0), 0);
    }

    static void promise01_newObject_nothingIsForcedOrKept() {
        ResampledRows x = new ResampledRows();
        Check.due("count(3)", x.count(3), 0);
        Check.due("count(4)", x.count(4), Check.NONE);
    }

    static void promise01_newObject_sharesNothingWithAnother() {
        ResampledRows first = filled();
        first.force(2);
        Bounds.alike("another object", new ResampledRows(), new ResampledRows());
        ResampledRows second = new ResampledRows();
        second.start(0, 9);
        second.begin(16, 5L);
        second.clear();
        Check.due("the first one's rows", first.count(0), 2);
        Check.due("the first one's start", first.start(0, 2), 2);
        Check.due("the first one's forced ones", first.count(3), 2);
    }

    static void promise02_start_statesGoFrom0To5() {
        for (int state = 0; state < 6; state++) {
            ResampledRows x = new ResampledRows();
            Check.due("start(" + state + ", 7)", x.start(state, 7), 1);
            Check.due("start(" + state + ", 1)", x.start(state, 1), 7);
        }
    }

    static void promise02_start_stateBelow0IsUnknown() {
        Bounds.refused("start(-1, 4)", BoundsTablesTest::filled, x -> x.start(-1, 4), Check.UNKNOWN);
        Bounds.refused("start(min, 4)", BoundsTablesTest::filled, x -> x.start(Bounds.MIN, 4), Check.UNKNOWN);
    }

    static void promise02_start_stateAbove5IsUnknown() {
        Bounds.refused("start(6, 4)", BoundsTablesTest::filled, x -> x.start(6, 4), Check.UNKNOWN);
        Bounds.refused("start(max, 4)", BoundsTablesTest::filled, x -> x.start(Bounds.MAX, 4), Check.UNKNOWN);
    }

    static void promise02_start_weightsGoFrom0To9() {
        ResampledRows x = new ResampledRows();
        int was = 1;
        for (int w = 0; w < 10; w++) {
            Check.due("start(3, " + w + ")", x.start(3, w), was);
            was = w;
        }
        Check.due("start(3, 0)", x.start(3, 0), 9);
    }

    static void promise02_start_weightBelow0IsOutside() {
        Bounds.refused("start(0, -1)", BoundsTablesTest::filled, x -> x.start(0, -1), Check.OUTSIDE);
        Bounds.refused("start(5, min)", BoundsTablesTest::filled, x -> x.start(5, Bounds.MIN), Check.OUTSIDE);
    }

    static void promise02_start_weightAbove9IsOutside() {
        Bounds.refused("start(0, 10)", BoundsTablesTest::filled, x -> x.start(0, 10), Check.OUTSIDE);
        Bounds.refused("start(5, max)", BoundsTablesTest::filled, x -> x.start(5, Bounds.MAX), Check.OUTSIDE);
    }

    static void promise02_start_unknownComesBeforeOutside() {
        Bounds.refused("start(-1, -1)", BoundsTablesTest::filled, x -> x.start(-1, -1), Check.UNKNOWN);
        Bounds.refused("start(6, 10)", BoundsTablesTest::filled, x -> x.start(6, 10), Check.UNKNOWN);
    }

    static void promise02_start_leavesTheRunThatStands() {
        ResampledRows x = Check.standing(1, 2);
        x.start(1, 0);
        Check.due("rows", x.count(0), 2);
        Check.dueStates("start(1, 0)", x, 1, 2);
    }

    static void promise03_move_statesGoFrom0To5() {
        for (int a = 0; a < 6; a++) {
            for (int b = 0; b < 6; b++) {
                ResampledRows x = new ResampledRows();
                Check.due("move(" + a + ", " + b + ", 7)", x.move(a, b, 7), 1);
                Check.due("move(" + b + ", " + a + ", 7)", x.move(b, a, 7), a == b ? 7 : 1);
                Check.due("move(" + a + ", " + b + ", 1)", x.move(a, b, 1), 7);
            }
        }
    }

    static void promise03_move_fromBelow0IsUnknown() {
        Bounds.refused("move(-1, 0, 3)", BoundsTablesTest::filled, x -> x.move(-1, 0, 3), Check.UNKNOWN);
        Bounds.refused("move(min, 0, 3)", BoundsTablesTest::filled, x -> x.move(Bounds.MIN, 0, 3), Check.UNKNOWN);
    }

    static void promise03_move_fromAbove5IsUnknown() {
        Bounds.refused("move(6, 0, 3)", BoundsTablesTest::filled, x -> x.move(6, 0, 3), Check.UNKNOWN);
        Bounds.refused("move(max, 0, 3)", BoundsTablesTest::filled, x -> x.move(Bounds.MAX, 0, 3), Check.UNKNOWN);
    }

    static void promise03_move_toBelow0IsUnknown() {
        Bounds.refused("move(0, -1, 3)", BoundsTablesTest::filled, x -> x.move(0, -1, 3), Check.UNKNOWN);
        Bounds.refused("move(5, min, 3)", BoundsTablesTest::filled, x -> x.move(5, Bounds.MIN, 3), Check.UNKNOWN);
    }

    static void promise03_move_toAbove5IsUnknown() {
        Bounds.refused("move(0, 6, 3)", BoundsTablesTest::filled, x -> x.move(0, 6, 3), Check.UNKNOWN);
        Bounds.refused("move(5, max, 3)", BoundsTablesTest::filled, x -> x.move(5, Bounds.MAX, 3), Check.UNKNOWN);
    }

    static void promise03_move_weightsGoFrom0To9() {
        ResampledRows x = new ResampledRows();
        int was = 1;
        for (int w = 0; w < 10; w++) {
            Check.due("move(2, 4, " + w + ")", x.move(2, 4, w), was);
            was = w;
        }
        Check.due("move(2, 4, 0)", x.move(2, 4, 0), 9);
    }

    static void promise03_move_weightBelow0IsOutside() {
        Bounds.refused("move(0, 5, -1)", BoundsTablesTest::filled, x -> x.move(0, 5, -1), Check.OUTSIDE);
        Bounds.refused("move(5, 0, min)", BoundsTablesTest::filled, x -> x.move(5, 0, Bounds.MIN), Check.OUTSIDE);
    }

    static void promise03_move_weightAbove9IsOutside() {
        Bounds.refused("move(0, 5, 10)", BoundsTablesTest::filled, x -> x.move(0, 5, 10), Check.OUTSIDE);
        Bounds.refused("move(5, 0, max)", BoundsTablesTest::filled, x -> x.move(5, 0, Bounds.MAX), Check.OUTSIDE);
    }

    static void promise03_move_unknownComesBeforeOutside() {
        Bounds.refused("move(-1, 0, 10)", BoundsTablesTest::filled, x -> x.move(-1, 0, 10), Check.UNKNOWN);
        Bounds.refused("move(0, 6, -1)", BoundsTablesTest::filled, x -> x.move(0, 6, -1), Check.UNKNOWN);
    }

    static void promise04_seen_sightsGoFrom0To4AndStatesFrom0To5() {
        for (int sight = 0; sight < 5; sight++) {
            for (int state = 0; state < 6; state++) {
                ResampledRows x = new ResampledRows();
                Check.due("seen(" + sight + ", " + state + ", 7)", x.seen(sight, state, 7), 1);
                Check.due("seen(0, 0, 7)", x.seen(0, 0, 7), sight == 0 && state == 0 ? 7 : 1);
                Check.due("seen(" + sight + ", " + state + ", 1)", x.seen(sight, state, 1), 7);
            }
        }
    }

    static void promise04_seen_sightBelow0IsUnknown() {
        Bounds.refused("seen(-1, 0, 3)", BoundsTablesTest::filled, x -> x.seen(-1, 0, 3), Check.UNKNOWN);
        Bounds.refused("seen(min, 0, 3)", BoundsTablesTest::filled, x -> x.seen(Bounds.MIN, 0, 3), Check.UNKNOWN);
    }

    static void promise04_seen_sightAbove4IsUnknown() {
        Bounds.refused("seen(5, 0, 3)", BoundsTablesTest::filled, x -> x.seen(5, 0, 3), Check.UNKNOWN);
        Bounds.refused("seen(max, 0, 3)", BoundsTablesTest::filled, x -> x.seen(Bounds.MAX, 0, 3), Check.UNKNOWN);
    }

    static void promise04_seen_stateBelow0IsUnknown() {
        Bounds.refused("seen(0, -1, 3)", BoundsTablesTest::filled, x -> x.seen(0, -1, 3), Check.UNKNOWN);
        Bounds.refused("seen(4, min, 3)", BoundsTablesTest::filled, x -> x.seen(4, Bounds.MIN, 3), Check.UNKNOWN);
    }

    static void promise04_seen_stateAbove5IsUnknown() {
        Bounds.refused("seen(0, 6, 3)", BoundsTablesTest::filled, x -> x.seen(0, 6, 3), Check.UNKNOWN);
        Bounds.refused("seen(4, max, 3)", BoundsTablesTest::filled, x -> x.seen(4, Bounds.MAX, 3), Check.UNKNOWN);
    }

    static void promise04_seen_weightsGoFrom0To9() {
        ResampledRows x = new ResampledRows();
        int was = 1;
        for (int w = 0; w < 10; w++) {
            Check.due("seen(3, 5, " + w + ")", x.seen(3, 5, w), was);
            was = w;
        }
        Check.due("seen(3, 5, 0)", x.seen(3, 5, 0), 9);
    }

    static void promise04_seen_weightBelow0IsOutside() {
        Bounds.refused("seen(0, 0, -1)", BoundsTablesTest::filled, x -> x.seen(0, 0, -1), Check.OUTSIDE);
        Bounds.refused("seen(4, 5, min)", BoundsTablesTest::filled, x -> x.seen(4, 5, Bounds.MIN), Check.OUTSIDE);
    }

    static void promise04_seen_weightAbove9IsOutside() {
        Bounds.refused("seen(0, 0, 10)", BoundsTablesTest::filled, x -> x.seen(0, 0, 10), Check.OUTSIDE);
        Bounds.refused("seen(4, 5, max)", BoundsTablesTest::filled, x -> x.seen(4, 5, Bounds.MAX), Check.OUTSIDE);
    }

    static void promise04_seen_unknownComesBeforeOutside() {
        Bounds.refused("seen(5, 0, 10)", BoundsTablesTest::filled, x -> x.seen(5, 0, 10), Check.UNKNOWN);
        Bounds.refused("seen(0, 6, -1)", BoundsTablesTest::filled, x -> x.seen(0, 6, -1), Check.UNKNOWN);
    }

    static void promise05_named_statesGoFrom0To5() {
        for (int state = 0; state < 6; state++) {
            ResampledRows x = new ResampledRows();
            Check.due("named(" + state + ", 3)", x.named(state, 3), 0);
            Check.due("named(" + state + ", 0)", x.named(state, 0), 3);
        }
    }

    static void promise05_named_stateBelow0IsUnknown() {
        Bounds.refused("named(-1, 3)", BoundsTablesTest::filled, x -> x.named(-1, 3), Check.UNKNOWN);
        Bounds.refused("named(min, 3)", BoundsTablesTest::filled, x -> x.named(Bounds.MIN, 3), Check.UNKNOWN);
    }

    static void promise05_named_stateAbove5IsUnknown() {
        Bounds.refused("named(6, 3)", BoundsTablesTest::filled, x -> x.named(6, 3), Check.UNKNOWN);
        Bounds.refused("named(max, 3)", BoundsTablesTest::filled, x -> x.named(Bounds.MAX, 3), Check.UNKNOWN);
    }

    static void promise05_named_namesGoFrom0To3() {
        ResampledRows x = new ResampledRows();
        int was = 0;
        for (int name = 0; name < 4; name++) {
            Check.due("named(4, " + name + ")", x.named(4, name), was);
            was = name;
        }
        Check.due("named(4, 0)", x.named(4, 0), 3);
    }

    static void promise05_named_nameBelow0IsOutside() {
        Bounds.refused("named(0, -1)", BoundsTablesTest::filled, x -> x.named(0, -1), Check.OUTSIDE);
        Bounds.refused("named(5, min)", BoundsTablesTest::filled, x -> x.named(5, Bounds.MIN), Check.OUTSIDE);
    }

    static void promise05_named_nameAbove3IsOutside() {
        Bounds.refused("named(0, 4)", BoundsTablesTest::filled, x -> x.named(0, 4), Check.OUTSIDE);
        Bounds.refused("named(5, max)", BoundsTablesTest::filled, x -> x.named(5, Bounds.MAX), Check.OUTSIDE);
    }

    static void promise05_named_unknownComesBeforeOutside() {
        Bounds.refused("named(-1, -1)", BoundsTablesTest::filled, x -> x.named(-1, -1), Check.UNKNOWN);
        Bounds.refused("named(6, 4)", BoundsTablesTest::filled, x -> x.named(6, 4), Check.UNKNOWN);
    }

    static void promise20_clear_withoutARunTells0() {
        Check.due("clear() of a new object", new ResampledRows().clear(), 0);
        ResampledRows x = filled();
        Check.due("clear()", x.clear(), 2);
        Check.due("clear() again", x.clear(), 0);
    }

    static void promise20_clear_tellsTheLeastAndTheMostRows() {
        ResampledRows x = new ResampledRows();
        x.begin(1, 1L);
        Check.due("clear() of one row", x.clear(), 1);
        x.begin(16, 1L);
        Check.due("clear() of 16 rows", x.clear(), 16);
    }

    static void promise20_clear_afterALostBeginTells0() {
        ResampledRows x = filled();
        for (int state = 0; state < 6; state++) {
            x.start(state, 0);
        }
        x.begin(4, 1L);
        Check.due("clear()", x.clear(), 0);
        Check.due("start is 1 again", x.start(0, 1), 1);
    }

    static void promise20_clear_tablesAreAsAtFirst() {
        ResampledRows x = filled();
        x.clear();
        Bounds.alike("clear()", x, new ResampledRows());
    }

    static void promise20_clear_noRunIsLeft() {
        Bounds.Maker cleared = () -> {
            ResampledRows x = Check.weighed(3, 1, 2);
            x.keep(2);
            x.again(3);
            x.clear();
            return x;
        };
        Bounds.alike("a cleared object", cleared.make(), new ResampledRows());
        Bounds.refused("step(0, 0)", cleared, x -> x.step(0, 0), Check.GONE);
        Bounds.refused("from(0)", cleared, x -> x.from(0), Check.GONE);
        Bounds.refused("history(0, 0)", cleared, x -> x.history(0, 0), Check.GONE);
        Check.dueDouble("evidence()", cleared.make().evidence(), 0.0);
    }

    static void promise20_clear_aRunBehindItIsAsTheFirstOne() {
        ResampledRows x = Check.weighed(3, 1, 2);
        x.keep(2);
        x.again(3);
        x.step(0, 0);
        x.clear();
        x.begin(4, 6L);
        ResampledRows y = new ResampledRows();
        y.begin(4, 6L);
        Bounds.alike("begin behind clear()", x, y);
    }

    static void promise20_clear_nothingForcedIsLeftOf64() {
        ResampledRows x = new ResampledRows();
        for (int k = 0; k < 64; k++) {
            x.force(5);
        }
        x.clear();
        Check.due("count(3)", x.count(3), 0);
        for (int k = 1; k <= 64; k++) {
            Check.due("force " + k + " behind clear()", x.force(0), k);
        }
        x.begin(16, 3L);
        for (int r = 0; r < 16; r++) {
            Check.due("row(" + r + ", 0)", x.row(r, 0), 0);
        }
    }
}
