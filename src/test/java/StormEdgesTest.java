/** Promises 8 to 10: a test of its own for each sentence that names an edge. Rows: see Script. */
public final class StormEdgesTest {
    private static final Checks CHECKS = new Checks();

    public static void main(String[] arguments) {
        pathsLeft();
        hint();
        takeBack();
        storm();
        whatIsLost();
        behindAStorm();
        whatIsRegretted();
        howMuchIsRegretted();
        CHECKS.end();
    }

    private static void pathsLeft() {
        CHECKS.script("promise 8: columns of two rows differ by 1 at most: by 0, 1 and 2",
                "hint(3, 4) = 2160", "hint(4, 6) = NOT_POSSIBLE", "hint(4, 2) = NOT_POSSIBLE",
                "hint(4, 5)", "takeBack(4)", "hint(4, 3)", "takeBack(4)", "hint(4, 4)");
        CHECKS.script("promise 8: the same of the row above",
                "hint(4, 4) = 2160", "hint(3, 6) = NOT_POSSIBLE", "hint(3, 2) = NOT_POSSIBLE",
                "hint(3, 5)", "takeBack(3)", "hint(3, 3)", "takeBack(3)", "hint(3, 4)");
        CHECKS.script("promise 8: from the column 0 a path goes to 0 and 1 alone, not to 7",
                "hint(3, 0) = 455", "ifTold(4, 7) = 0", "hint(4, 7) = NOT_POSSIBLE",
                "hint(4, 2) = NOT_POSSIBLE", "hint(2, 7) = NOT_POSSIBLE", "hint(4, 1)",
                "hint(2, 1)");
        CHECKS.script("promise 8: from the column 7 a path goes to 7 and 6 alone, not to 0",
                "hint(3, 7) = 455", "ifTold(4, 0) = 0", "hint(4, 0) = NOT_POSSIBLE",
                "hint(4, 5) = NOT_POSSIBLE", "hint(2, 0) = NOT_POSSIBLE", "hint(4, 6)",
                "hint(2, 6)");
        CHECKS.script("promise 8: a path is left if it has the columns of all hints",
                "hint(0, 0) = 750", "hint(1, 1) = 483", "hint(2, 2) = 216", "hint(3, 3) = 80",
                "hint(4, 4) = 27", "hint(5, 5) = 9", "hint(6, 6) = 3", "hint(7, 7) = 1",
                "count(5) = 1");
    }

    private static void hint() {
        CHECKS.script("promise 8: row, 0 to 7: both ends and just outside",
                "hint(-1, 0) = UNKNOWN", "hint(0, 3) = 1994", "hint(8, 0) = UNKNOWN", "hint(7, 3)",
                "row(0, 0) = 3", "row(7, 0) = 3", "hint(least, 0) = UNKNOWN",
                "hint(greatest, 0) = UNKNOWN");
        CHECKS.script("promise 8: column, 0 to 7: both ends and just outside",
                "hint(5, -1) = BAD_VALUE", "hint(5, 8) = BAD_VALUE", "hint(5, 0) = 480",
                "takeBack(5) = 11814", "hint(5, 7) = 480", "hint(0, least) = BAD_VALUE",
                "hint(0, greatest) = BAD_VALUE");
        CHECKS.script("promise 8: the last row and the last column",
                "hint(7, 7) = 750", "row(7, 0) = 7", "count(6) = 1");
        CHECKS.script("promise 8: UNKNOWN comes ahead of BAD_VALUE",
                "hint(8, 8) = UNKNOWN", "hint(-1, -1) = UNKNOWN",
                "hint(least, greatest) = UNKNOWN");
        CHECKS.script("promise 8: UNKNOWN and BAD_VALUE come ahead of NOT_POSSIBLE",
                "hint(0..7, 0)", "hint(8, 0) = UNKNOWN", "hint(-1, 0) = UNKNOWN",
                "hint(0, 8) = BAD_VALUE", "hint(7, -1) = BAD_VALUE");
        CHECKS.script("promise 8: NOT_POSSIBLE if a hint is told for the row: the same or another",
                "hint(3, 4) = 2160", "hint(3, 4) = NOT_POSSIBLE", "hint(3, 5) = NOT_POSSIBLE",
                "hint(3, 0) = NOT_POSSIBLE", "count(6) = 1");
        CHECKS.script("promise 8: NOT_POSSIBLE in each row for which a hint is told",
                "hint(0..7, 0)", "hint(0..7, 0) = NOT_POSSIBLE", "hint(0..7, 1) = NOT_POSSIBLE",
                "count(6) = 8");
        CHECKS.script("promise 8: NOT_POSSIBLE if no path would be left, possible if one is",
                "hint(0, 1) = 1372", "hint(6, 7)", "takeBack(0) = 534", "hint(0, 0) = NOT_POSSIBLE",
                "hint(0, 1)", "count(5) = 2", "hint(7, 5) = NOT_POSSIBLE", "hint(7, 7) = 1");
        CHECKS.script("promise 8: no path between two hints that are too far apart for their rows",
                "hint(0, 0) = 750", "hint(5, 6) = NOT_POSSIBLE", "hint(6, 7) = NOT_POSSIBLE",
                "hint(7, 7) = 1", "hint(3, 4) = NOT_POSSIBLE", "hint(3, 2) = NOT_POSSIBLE",
                "hint(3, 3) = 1");
        CHECKS.script("promise 8: further hints of its columns leave the one path as it is",
                "hint(0, 7) = 750", "hint(7, 0) = 1", "hint(1, 6) = 1", "hint(6, 1) = 1",
                "hint(4, 4) = NOT_POSSIBLE", "hint(4, 3) = 1", "count(6) = 5");
        CHECKS.script("promise 8: an act",
                "hint(0, 0) = 750", "count(15) = 1", "undo() = 0", "count(5) = 11814",
                "row(0, 0) = NONE", "hint(0, 7) = 750");
    }

    private static void takeBack() {
        CHECKS.script("promise 9: row, 0 to 7: both ends and just outside",
                "hint(0, 0)", "hint(7, 7) = 1", "takeBack(-1) = UNKNOWN", "takeBack(8) = UNKNOWN",
                "takeBack(least) = UNKNOWN", "takeBack(greatest) = UNKNOWN", "takeBack(0) = 750",
                "takeBack(7) = 11814");
        CHECKS.script("promise 9: NONE if none is told for it, also if others are",
                "takeBack(0..7) = NONE", "hint(3, 0) = 455", "takeBack(2) = NONE",
                "takeBack(4) = NONE", "takeBack(3) = 11814", "takeBack(3) = NONE");
        CHECKS.script("promise 9: a hint of the column 0 is one, too",
                "hint(7, 0) = 750", "takeBack(7) = 11814", "takeBack(7) = NONE");
        CHECKS.script("promise 9: the last of eight hints, and all of them",
                "hint(0..7, 7)", "takeBack(7) = 2", "takeBack(6) = 5", "takeBack(0) = 10",
                "takeBack(1..5)", "count(5) = 11814", "count(6) = 0");
        CHECKS.script("promise 9: one path is left still if other hints tell it",
                "hint(0, 0)", "hint(7, 7) = 1", "hint(3, 3) = 1", "takeBack(3) = 1", "count(5) = 1",
                "hint(3, 4) = NOT_POSSIBLE");
        CHECKS.script("promise 9: another hint can be told behind it",
                "hint(3, 0) = 455", "hint(3, 7) = NOT_POSSIBLE", "takeBack(3)", "hint(3, 7) = 455");
        CHECKS.script("promise 9: an act",
                "hint(2, 2) = 1944", "takeBack(2) = 11814", "count(15) = 2", "undo() = 1",
                "row(2, 0) = 2", "count(5) = 1944");
    }

    private static void storm() {
        CHECKS.script("promise 10: NOT_POSSIBLE with all paths left",
                "grow(0..7, 5)", "storm() = NOT_POSSIBLE", "count(1) = 40");
        CHECKS.script("promise 10: NOT_POSSIBLE with two paths left, possible with one",
                "grow(0, 9)", "hint(0..6, 0)", "count(5) = 2", "storm() = NOT_POSSIBLE",
                "hint(7, 1) = 1", "storm() = 9");
        CHECKS.script("promise 10: one path that two hints alone tell, down to the last plot",
                "grow(0, 1)", "grow(9, 5)", "grow(63, 99)", "grow(8, 50)", "grow(62, 50)",
                "hint(0, 0)", "hint(7, 7) = 1", "storm() = 105", "plot(63, 0) = 0",
                "count(1) = 100");
        CHECKS.script("promise 10: the other way across",
                "grow(7, 1)", "grow(14, 5)", "grow(56, 99)", "grow(0, 50)", "grow(63, 50)",
                "hint(0, 7)", "hint(7, 0) = 1", "storm() = 105", "plot(56, 0) = 0",
                "count(1) = 100");
        CHECKS.script("promise 10: an act, also with the answer 0 in a wood without trees",
                "hint(0..7, 4)", "storm() = 0", "count(15) = 4", "count(10) = 1", "count(8) = 0",
                "undo() = 3", "count(10) = 0", "count(6) = 8", "count(5) = 1");
        CHECKS.script("promise 10: each storm is counted, and what is lost adds up",
                "grow(0, 5)", "hint(0..7, 0)", "storm() = 5", "storm() = NOT_POSSIBLE",
                "grow(8, 6)", "hint(0..7, 0)", "storm() = 6", "count(10) = 2", "count(8) = 11",
                "undo() = 3", "count(10) = 1", "count(8) = 5", "plot(8, 0) = 6");
    }

    private static void whatIsLost() {
        CHECKS.script("promise 10: it hits the plots at most 0 columns away",
                "grow(24..31, 1)", "hint(0..7, 3)", "storm() = 1", "plot(27, 0) = 0",
                "plot(26, 0) = 1", "plot(28, 0) = 1");
        CHECKS.script("promise 10: it hits the plots at most 1 column away",
                "set(1, 1)", "grow(24..31, 1)", "hint(0..7, 3)", "storm() = 3",
                "plot(26..28, 0) = 0", "plot(25, 0) = 1", "plot(29, 0) = 1");
        CHECKS.script("promise 10: it hits the plots at most 2 columns away",
                "set(1, 2)", "grow(24..31, 1)", "hint(0..7, 3)", "storm() = 5",
                "plot(25..29, 0) = 0", "plot(24, 0) = 1", "plot(30, 0) = 1");
        CHECKS.script("promise 10: in the column 0 it hits none of the row above",
                "set(1, 2)", "grow(5..10, 1)", "grow(11, 1)", "hint(0..7, 0)", "storm() = 3",
                "plot(5..7, 0) = 1", "plot(8..10, 0) = 0", "plot(11, 0) = 1");
        CHECKS.script("promise 10: in the column 7 it hits none of the row below",
                "set(1, 2)", "grow(4..10, 1)", "hint(0..7, 7)", "storm() = 3", "plot(4, 0) = 1",
                "plot(5..7, 0) = 0", "plot(8..10, 0) = 1");
        CHECKS.script("promise 10: the corners with a reach of 1",
                "set(1, 1)", "grow(0..2, 1)", "grow(54..63, 1)", "hint(0, 0)", "hint(7, 7) = 1",
                "storm() = 6", "plot(0..1, 0) = 0", "plot(2, 0) = 1", "plot(53..55, 0) = 0",
                "plot(56..61, 0) = 1", "plot(62..63, 0) = 0");
        CHECKS.script("promise 10: the most that a storm can take, forty plots of 99",
                "set(1, 2)", "grow(0..63, 99)", "count(1) = 6336", "hint(0..7, 3)",
                "storm() = 3960", "count(1) = 2376", "count(8) = 3960");
    }

    private static void behindAStorm() {
        CHECKS.script("promise 10: behind a storm there are no hints",
                "hint(0..7, 4)", "storm() = 0", "count(6) = 0", "row(0, 0) = NONE",
                "row(7, 0) = NONE", "count(5) = 11814", "takeBack(0..7) = NONE",
                "hint(0, 7) = 750");
        CHECKS.script("promise 10: behind a storm no plot was felled since it",
                "grow(0, 5)", "fell(0)", "hint(0..7, 4)", "storm() = 0", "plot(0, 6) = 0",
                "count(11) = 0", "count(7) = 5", "crew(0, 2) = 5", "crew(0, 3) = 1");
        CHECKS.script("promise 10: the same of the first plot and of the last",
                "set(0, 30)", "endDays(1)", "grow(0, 5)", "fell(0)", "go(2, 63)", "grow(63, 5)",
                "fell(2)", "hint(0..7, 4)", "count(11) = 2", "storm() = 0", "plot(0, 6) = 0",
                "plot(63, 6) = 0", "count(11) = 0");
        CHECKS.script("promise 10: mud, days, crews and settings stay",
                "set(0, 9)", "set(1, 1)", "set(2, 4)", "endDays(2)", "rain(5)", "go(1, 2) = 7",
                "hint(0..7, 4)", "storm() = 0", "plot(0, 1) = 5", "count(0) = 2", "crew(1, 0) = 2",
                "crew(1, 1) = 7", "crew(0, 1) = 9", "count(12) = 9", "count(13) = 1",
                "count(14) = 4");
    }

    private static void whatIsRegretted() {
        CHECKS.script("promise 10: nothing is regretted if none was felled",
                "grow(0, 50)", "hint(0..7, 0)", "storm() = 50", "count(9) = 0");
        CHECKS.script("promise 10: felled ahead of the first storm (or at all), in vain",
                "grow(0, 10)", "fell(0)", "grow(3, 7)", "hint(0..7, 3)", "storm() = 7",
                "count(9) = 7");
        CHECKS.script("promise 10: a felled plot that the storm hits was not felled in vain",
                "grow(0, 10)", "fell(0)", "grow(8, 7)", "hint(0..7, 0)", "storm() = 7",
                "count(9) = 0");
        CHECKS.script("promise 10: neither was it if it is hit at the end of the storm's reach",
                "set(1, 2)", "grow(0, 10)", "fell(0)", "grow(8, 7)", "hint(0..7, 2)", "storm() = 7",
                "count(9) = 0");
        CHECKS.script("promise 10: but it was if it is one column beyond the reach",
                "set(1, 1)", "grow(0, 10)", "fell(0)", "grow(9, 7)", "hint(0..7, 2)", "storm() = 7",
                "count(9) = 7");
        CHECKS.script("promise 10: the first plot and the last felled in vain",
                "set(0, 30)", "endDays(1)", "grow(0, 1)", "fell(0)", "go(2, 63)", "grow(63, 1)",
                "fell(2)", "grow(3, 1)", "grow(59, 99)", "grow(51, 2)", "hint(0..7, 3)",
                "storm() = 102", "count(9) = 101");
        CHECKS.script("promise 10: a plot that was felled twice counts once",
                "grow(0, 10)", "fell(0)", "grow(0, 11)", "fell(0)", "grow(3, 7)", "grow(11, 8)",
                "hint(0..7, 3)", "storm() = 15", "count(9) = 8");
        CHECKS.script("promise 10: felled in vain also if trees grew there again",
                "grow(0, 10)", "fell(0)", "grow(0, 11)", "grow(3, 7)", "hint(0..7, 3)",
                "storm() = 7", "count(9) = 7", "plot(0, 0) = 11");
        CHECKS.script("promise 10: felled, grown again and hit: lost, and not in vain",
                "grow(0, 10)", "fell(0)", "grow(0, 11)", "hint(0..7, 0)", "storm() = 11",
                "count(9) = 0");
        CHECKS.script("promise 10: felled ahead of the storm before: no more in vain",
                "grow(0, 10)", "fell(0)", "hint(0..7, 3)", "storm() = 0", "count(9) = 0",
                "grow(3, 7)", "hint(0..7, 3)", "storm() = 7", "count(9) = 0");
    }

    private static void howMuchIsRegretted() {
        CHECKS.script("promise 10: all of them if fewer are lost than were felled in vain",
                "grow(0..2, 5)", "fell(0..2)", "grow(4, 20)", "grow(12, 1)", "hint(0..7, 4)",
                "storm() = 21", "count(9) = 21");
        CHECKS.script("promise 10: all of them if as many are lost as were felled in vain",
                "grow(0..1, 5)", "fell(0..1)", "grow(4, 20)", "grow(12, 1)", "hint(0..7, 4)",
                "storm() = 21", "count(9) = 21");
        CHECKS.script("promise 10: the greatest ones if one more is lost than was felled in vain",
                "grow(0..1, 5)", "fell(0..1)", "grow(4, 20)", "grow(12, 1)", "grow(60, 2)",
                "hint(0..7, 4)", "storm() = 23", "count(9) = 22");
        CHECKS.script("promise 10: the greatest one of many, with the greatest worth",
                "grow(0, 5)", "fell(0)", "grow(4, 98)", "grow(12, 99)", "grow(20, 1)",
                "grow(60, 97)", "grow(3, 99)", "hint(0..7, 4)", "storm() = 295", "count(9) = 99");
        CHECKS.script("promise 10: the greatest one on the last plot, or on the first",
                "grow(1, 5)", "fell(1)", "grow(0, 3)", "grow(63, 9)", "hint(0, 0)",
                "hint(7, 7) = 1", "storm() = 12", "count(9) = 9", "grow(1, 5)", "fell(1)",
                "grow(0, 9)", "grow(63, 3)", "hint(0, 0)", "hint(7, 7) = 1", "storm() = 12",
                "count(9) = 18");
        CHECKS.script("promise 10: of equal worths as many as were felled in vain",
                "grow(0..1, 5)", "fell(0..1)", "grow(4, 50)", "grow(12, 50)", "grow(20, 50)",
                "hint(0..7, 4)", "storm() = 150", "count(9) = 100");
        CHECKS.script("promise 10: nothing is regretted if nothing is lost",
                "grow(0, 5)", "fell(0)", "hint(0..7, 4)", "storm() = 0", "count(9) = 0");
        CHECKS.script("promise 10: the least worth is regretted, too",
                "grow(0, 5)", "fell(0)", "grow(4, 1)", "hint(0..7, 4)", "storm() = 1",
                "count(9) = 1");
        CHECKS.script("promise 10: plots that stand are neither lost nor regretted",
                "grow(0, 5)", "fell(0)", "grow(3, 99)", "grow(4, 2)", "grow(5, 99)",
                "hint(0..7, 4)", "storm() = 2", "count(9) = 2");
        CHECKS.script("promise 10: what is regretted adds up, storm by storm",
                "grow(0, 5)", "fell(0)", "grow(4, 3)", "hint(0..7, 4)", "storm() = 3",
                "count(9) = 3", "grow(1, 5)", "fell(1)", "grow(4, 4)", "hint(0..7, 4)",
                "storm() = 4", "count(9) = 7", "undo() = 3", "count(9) = 3");
        CHECKS.script("promise 10: what grew is standing, saved or lost",
                "grow(0, 90)", "grow(1, 80)", "grow(4, 70)", "grow(5, 60)", "fell(0)", "go(1, 0)",
                "hint(0..7, 4)", "storm() = 70", "count(1) = 140", "count(7) = 90", "count(8) = 70",
                "count(9) = 70");
    }
}
