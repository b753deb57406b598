/** Promises 15 to 17: a test of its own for each sentence that names an edge. Rows: see Script. */
public final class HistoryEdgesTest {
    private static final Checks CHECKS = new Checks();

    public static void main(String[] arguments) {
        undo();
        acts();
        actsThatAnswerZero();
        noActs();
        refusedActs();
        keep();
        restore();
        partsOfState();
        CHECKS.end();
    }

    private static void undo() {
        CHECKS.script("promise 15: NONE if the history is empty",
                "undo() = NONE", "count(15) = 0", "undo() = NONE");
        CHECKS.script("promise 15: a history with one state",
                "grow(0, 5)", "count(15) = 1", "undo() = 0", "plot(0, 0) = 0", "count(15) = 0",
                "undo() = NONE");
        CHECKS.script("promise 15: a history of 4 states is full, and none is dropped yet",
                "grow(0, 1..4)", "count(15) = 4", "undo() = 3", "undo() = 2", "undo() = 1",
                "undo() = 0", "plot(0, 0) = 0", "undo() = NONE");
        CHECKS.script("promise 15: when one more is recorded, the oldest one is dropped",
                "grow(0, 1..5)", "count(15) = 4", "undo() = 3", "plot(0, 0) = 4", "undo() = 2",
                "plot(0, 0) = 3", "undo() = 1", "plot(0, 0) = 2", "undo() = 0", "plot(0, 0) = 1",
                "undo() = NONE", "plot(0, 0) = 1");
        CHECKS.script("promise 15: the same behind many acts",
                "grow(0, 1..23)", "count(15) = 4", "undo() = 3", "undo() = 2", "undo() = 1",
                "undo() = 0", "plot(0, 0) = 19", "undo() = NONE");
        CHECKS.script("promise 15: removed states make room for new ones",
                "grow(0, 1..6)", "undo() = 3", "undo() = 2", "grow(0, 50) = 4", "count(15) = 3",
                "grow(0, 51) = 50", "count(15) = 4", "grow(0, 52) = 51", "count(15) = 4",
                "undo() = 3", "plot(0, 0) = 51", "undo() = 2", "plot(0, 0) = 50", "undo() = 1",
                "plot(0, 0) = 4", "undo() = 0", "plot(0, 0) = 3", "undo() = NONE");
        CHECKS.script("promise 15: undo() itself is no act: it cannot be undone",
                "grow(0, 1..2)", "undo() = 1", "undo() = 0", "plot(0, 0) = 0", "undo() = NONE",
                "grow(0, 1) = 0", "count(15) = 1");
    }

    /** A tree grows first: undo() must take back the act alone, not what was ahead of it. */
    private static void acts() {
        CHECKS.script("promise 15: each act records the state before it: grow()",
                "rain(2)", "grow(5, 50)", "undo() = 1", "plot(5, 0) = 0", "plot(5, 1) = 2");
        CHECKS.script("promise 15: each act records the state before it: rain()",
                "grow(63, 50)", "rain(9)", "undo() = 1", "plot(0, 1) = 0", "plot(63, 0) = 50");
        CHECKS.script("promise 15: each act records the state before it: endDays()",
                "rain(3)", "go(0, 1)", "endDays(2)", "undo() = 2", "count(0) = 0", "plot(0, 1) = 3",
                "crew(0, 0) = 1", "crew(0, 1) = 6");
        CHECKS.script("promise 15: each act records the state before it: set()",
                "grow(63, 50)", "set(0, 9)", "set(1, 2)", "set(2, 1)", "undo() = 3",
                "count(14) = 3", "undo() = 2", "count(13) = 0", "undo() = 1", "count(12) = 8",
                "plot(63, 0) = 50");
        CHECKS.script("promise 15: each act records the state before it: go()",
                "grow(63, 50)", "go(2, 3)", "undo() = 1", "crew(2, 0) = 2", "crew(2, 1) = 8",
                "plot(63, 0) = 50");
        CHECKS.script("promise 15: each act records the state before it: fell()",
                "grow(2, 5)", "fell(2)", "undo() = 1", "plot(2, 0) = 5", "crew(2, 1) = 8",
                "crew(2, 2) = 0", "crew(2, 3) = 0", "count(7) = 0", "count(11) = 0",
                "plot(2, 6) = 0");
        CHECKS.script("promise 15: each act records the state before it: hint()",
                "grow(63, 50)", "hint(7, 0)", "undo() = 1", "row(7, 0) = NONE", "count(5) = 11814",
                "plot(63, 0) = 50");
        CHECKS.script("promise 15: each act records the state before it: takeBack()",
                "hint(7, 0)", "grow(63, 50)", "takeBack(7)", "undo() = 2", "row(7, 0) = 0",
                "count(5) = 750", "plot(63, 0) = 50");
        CHECKS.script("promise 15: each act records the state before it: storm()",
                "grow(0, 5)", "fell(0)", "hint(0..7, 4)", "grow(4, 6)", "storm() = 6",
                "count(9) = 6", "undo() = 3", "plot(4, 0) = 6", "count(6) = 8", "count(8) = 0",
                "count(9) = 0", "count(10) = 0", "count(11) = 1", "plot(0, 6) = 1");
        CHECKS.script("promise 15: each act records the state before it: perform()",
                "grow(63, 50)", "text t5=5;r1", "perform() = 2", "count(15) = 2", "undo() = 1",
                "plot(5, 0) = 0", "plot(5, 1) = 0", "plot(63, 0) = 50");
        CHECKS.script("promise 15: each act records the state before it: restore()",
                "keep()", "rain(1)", "grow(5, 5)", "restore() = 0", "count(15) = 3",
                "plot(5, 0) = 0", "undo() = 2", "plot(5, 0) = 5", "plot(5, 1) = 1");
        CHECKS.script("promise 15: the state before the last plot, crew and row were changed",
                "grow(63, 99)", "rain(1)", "go(2, 7)", "hint(7, 7)", "undo() = 3",
                "row(7, 0) = NONE", "undo() = 2", "crew(2, 0) = 2", "undo() = 1", "plot(63, 1) = 0",
                "undo() = 0", "plot(63, 0) = 0");
        CHECKS.script("promise 15: the state before the first plot and the last were felled",
                "set(0, 30)", "endDays(1)", "grow(0, 5)", "go(2, 63)", "grow(63, 6)", "fell(0)",
                "fell(2)", "plot(63, 6) = 1", "undo() = 3", "plot(63, 6) = 0", "plot(0, 6) = 1",
                "undo() = 2", "plot(0, 6) = 0");
    }

    private static void actsThatAnswerZero() {
        CHECKS.script("promise 15: 0 is neither an error nor NONE: grow(), rain() and set()",
                "grow(0, 1) = 0", "count(15) = 1", "rain(1) = 0", "count(15) = 2", "set(1, 1) = 0",
                "count(15) = 3");
        CHECKS.script("promise 15: 0 is neither an error nor NONE: go()",
                "go(0, 36) = 0", "count(15) = 1");
        CHECKS.script("promise 15: 0 is neither an error nor NONE: storm()",
                "hint(0, 0)", "hint(7, 7)", "storm() = 0", "count(15) = 3");
        CHECKS.script("promise 15: 0 is neither an error nor NONE: restore()",
                "keep() = 0", "restore() = 0", "count(15) = 1");
    }

    private static void noActs() {
        CHECKS.script("promise 15: what is no act records nothing: type(), clearText(), keep()",
                "type('r') = 1", "clearText() = 1", "keep() = 0", "stopped(0) = NONE",
                "count(15) = 0");
        CHECKS.script("promise 15: what is no act records nothing: what is told",
                "grow(0, 5)", "plot(0, 0..6)", "crew(0, 0..3)", "row(0, 1..2)", "way(0, 63) = 14",
                "reason(0, 0) = 0", "best(0) = 0", "openRow() = 0", "ifTold(0, 0) = 750",
                "count(0..16)", "count(15) = 1", "count(5) = 11814");
    }

    private static void refusedActs() {
        CHECKS.script("promise 15: an act that returns an error or NONE records nothing",
                "grow(64, 1) = UNKNOWN", "grow(0, 100) = BAD_VALUE", "grow(0, 0) = NONE",
                "rain(0) = BAD_VALUE", "endDays(0) = BAD_VALUE", "set(3, 1) = UNKNOWN",
                "set(1, 3) = BAD_VALUE", "set(1, 0) = NONE", "go(3, 0) = UNKNOWN",
                "go(0, 63) = NOT_POSSIBLE", "go(0, 0) = NONE", "fell(3) = UNKNOWN",
                "fell(0) = NONE", "hint(8, 0) = UNKNOWN", "hint(0, 8) = BAD_VALUE",
                "takeBack(8) = UNKNOWN", "takeBack(0) = NONE", "storm() = NOT_POSSIBLE",
                "restore() = NONE", "count(15) = 0");
        CHECKS.script("promise 15: nor does it drop a state of a full history",
                "grow(0, 1..4)", "grow(0, 4) = NONE", "rain(10) = BAD_VALUE",
                "storm() = NOT_POSSIBLE", "text r0", "perform() = -101", "text g0>63",
                "perform() = NOT_POSSIBLE", "restore() = NONE", "count(15) = 4", "undo() = 3",
                "undo() = 2", "undo() = 1", "undo() = 0", "plot(0, 0) = 0");
        CHECKS.script("promise 15: refused in a wood where everything is at its end",
                "101 x endDays(99)", "rain(9)", "grow(63, 99)", "set(0, 30)", "set(1, 2)",
                "set(2, 9)", "go(2, 3)", "hint(0, 0)", "hint(7, 7) = 1", "keep() = 9999",
                "text g0>63", "perform() = NOT_POSSIBLE", "endDays(1) = FULL",
                "rain(10) = BAD_VALUE", "grow(63, 99) = NONE", "set(0..2, 31) = BAD_VALUE",
                "set(1, 2) = NONE", "go(2, 63) = NOT_POSSIBLE", "go(2, 3) = NONE",
                "fell(2) = NOT_POSSIBLE", "hint(3, 4) = NOT_POSSIBLE", "hint(7, 7) = NOT_POSSIBLE",
                "takeBack(3) = NONE", "count(15) = 4");
    }

    private static void keep() {
        CHECKS.script("promise 16: the day: the first one and the greatest one",
                "keep() = 0", "101 x endDays(99)", "keep() = 9999", "restore() = 9999");
        CHECKS.script("promise 16: in place of the one that was",
                "grow(0, 5)", "keep()", "grow(0, 6)", "keep()", "grow(0, 7)", "restore()",
                "plot(0, 0) = 6", "restore()", "plot(0, 0) = 6");
        CHECKS.script("promise 16: a snapshot stays as it was when the state changes behind it",
                "keep() = 0", "grow(63, 9)", "rain(2)", "endDays(1)", "set(1, 2)", "go(2, 3)",
                "hint(7, 7)", "restore() = 0", "count(1) = 0", "plot(0, 1) = 0", "count(13) = 0",
                "crew(2, 0) = 2", "crew(2, 1) = 8", "count(5) = 11814");
        CHECKS.script("promise 16: no act: it records nothing and undo() keeps the snapshot",
                "grow(0, 5)", "keep()", "count(15) = 1", "undo() = 0", "restore() = 0",
                "plot(0, 0) = 5");
    }

    private static void restore() {
        CHECKS.script("promise 17: NONE if there is no snapshot, also behind acts",
                "restore() = NONE", "grow(0, 1..6)", "restore() = NONE", "undo()",
                "restore() = NONE");
        CHECKS.script("promise 17: the snapshot stays and can be restored again and again",
                "grow(0, 5)", "keep()", "grow(0, 6)", "restore() = 0", "grow(0, 7)",
                "restore() = 0", "restore() = 0", "plot(0, 0) = 5");
        CHECKS.script("promise 17: the day then, the greatest one",
                "101 x endDays(99)", "keep() = 9999", "undo() = 3", "count(0) = 9900",
                "restore() = 9999", "count(0) = 9999", "endDays(1) = FULL");
        CHECKS.script("promise 17: an act, also if the state is as it was kept",
                "keep() = 0", "5 x restore() = 0", "count(15) = 4", "undo() = 3");
        CHECKS.script("promise 17: an act that drops the oldest state of a full history",
                "grow(0, 1..4)", "keep()", "restore() = 0", "count(15) = 4", "undo() = 3",
                "undo() = 2", "undo() = 1", "undo() = 0", "plot(0, 0) = 1");
        CHECKS.script("promise 17: the snapshot stays as it was when the restored state changes",
                "grow(0, 5)", "keep()", "restore()", "grow(0, 6)", "rain(9)", "hint(0, 0)",
                "restore()", "plot(0, 0) = 5", "plot(0, 1) = 0", "count(6) = 0");
        CHECKS.script("promise 17: undo() takes it back",
                "keep()", "grow(0, 5)", "restore()", "plot(0, 0) = 0", "undo() = 1",
                "plot(0, 0) = 5", "restore()", "plot(0, 0) = 0");
    }

    private static void partsOfState() {
        CHECKS.script("promise 15: all of a state comes back",
                "set(0, 30)", "set(1, 1)", "set(2, 2)", "endDays(1)", "rain(4)", "grow(0..9, 7)",
                "fell(0)", "go(2, 11)", "grow(3, 9)", "hint(0..7, 3)", "grow(2, 8)", "storm() = 24",
                "grow(4, 5)", "fell(1)", "hint(2, 5)", "keep() = 1",
                "text r3;.2;t4=0;t63=1;h3:5;g0>1;f2;g1>0", "perform() = 8", "undo() = 3",
                "count(0) = 1", "count(1) = 40", "count(5) = 1944", "count(6) = 1", "count(7) = 14",
                "count(8) = 24", "count(9) = 9", "count(10) = 1", "count(11) = 1", "count(12) = 30",
                "count(13) = 1", "count(14) = 2", "plot(4, 0) = 5", "plot(63, 0) = 0",
                "plot(63, 1) = 4", "crew(0, 0) = 0", "crew(0, 1) = 28", "crew(0, 3) = 1",
                "crew(1, 0) = 1", "crew(1, 2) = 7", "crew(2, 0) = 11", "crew(2, 1) = 26",
                "row(2, 0) = 5", "row(3, 0) = NONE", "plot(1, 6) = 1", "plot(0, 6) = 0");
        CHECKS.script("promise 17: all of a state comes back from the snapshot, too",
                "set(0, 30)", "set(1, 1)", "set(2, 2)", "endDays(1)", "rain(4)", "grow(0..9, 7)",
                "fell(0)", "hint(0..7, 3)", "storm() = 21", "fell(1)", "hint(2, 5)", "keep() = 1",
                "set(0, 1)", "set(1, 2)", "set(2, 9)", "takeBack(2)", "hint(0..7, 0)",
                "storm() = 14", "rain(2)", "endDays(99)", "go(1, 2)", "restore() = 1",
                "count(1) = 35", "count(5) = 1944", "count(6) = 1", "count(7) = 14",
                "count(8) = 21", "count(9) = 7", "count(10) = 1", "count(11) = 1", "count(12) = 30",
                "count(13) = 1", "count(14) = 2", "plot(0, 1) = 4", "plot(1, 6) = 1",
                "crew(1, 0) = 1", "crew(1, 1) = 28", "crew(1, 2) = 7", "crew(1, 3) = 1");
        CHECKS.script("promise 15: the text is no part of a state: a full one and an empty one",
                "grow(0, 5)", "keep()", "60 x type('x')", "undo() = 0", "count(16) = 60",
                "restore()", "count(16) = 60", "clearText() = 60", "undo() = 0", "count(16) = 0");
        CHECKS.script("promise 15: the history is no part of a state",
                "grow(0, 1..2)", "keep()", "grow(0, 3..5)", "count(15) = 4", "undo() = 3",
                "undo() = 2", "restore()", "count(15) = 3");
        CHECKS.script("promise 15: the snapshot is no part of a state",
                "grow(0, 5)", "keep()", "undo() = 0", "restore() = 0", "plot(0, 0) = 5",
                "undo() = 0", "plot(0, 0) = 0", "restore() = 0", "plot(0, 0) = 5");
        CHECKS.script("promise 15: the latest stop is no part of a state",
                "grow(0, 5)", "keep()", "text g0>63", "perform() = NOT_POSSIBLE", "undo() = 0",
                "stopped(0) = 0", "restore()", "stopped(0) = 0", "stopped(1) = NOT_POSSIBLE");
    }
}
