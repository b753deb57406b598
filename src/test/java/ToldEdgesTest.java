/** Promises 18 to 26: a test of its own for each sentence that names an edge. Rows: see Script. */
public final class ToldEdgesTest {
    private static final Checks CHECKS = new Checks();

    public static void main(String[] arguments) {
        plot();
        hitPlots();
        standsToLose();
        felledPlots();
        crew();
        row();
        way();
        reason();
        best();
        bestOfSeveral();
        openRow();
        ifTold();
        count();
        countOfPlots();
        countOfDeeds();
        CHECKS.end();
    }

    private static void plot() {
        CHECKS.script("promise 18: plot, 0 to 63: both ends and just outside",
                "plot(-1, 0) = UNKNOWN", "plot(0, 2) = 750", "plot(63, 2) = 750",
                "plot(64, 0) = UNKNOWN", "plot(least, 0) = UNKNOWN", "plot(greatest, 0) = UNKNOWN");
        CHECKS.script("promise 18: what, 0 to 6: both ends and just outside",
                "plot(5, -1) = BAD_VALUE", "plot(5, 0) = 0", "plot(5, 6) = 0",
                "plot(5, 7) = BAD_VALUE", "plot(5, least) = BAD_VALUE",
                "plot(5, greatest) = BAD_VALUE");
        CHECKS.script("promise 18: UNKNOWN comes ahead of BAD_VALUE",
                "plot(-1, -1) = UNKNOWN", "plot(64, 7) = UNKNOWN",
                "plot(greatest, least) = UNKNOWN");
        CHECKS.script("promise 18: the least and the greatest worth and mud",
                "plot(63, 0) = 0", "plot(63, 1) = 0", "grow(63, 99)", "rain(9)", "plot(63, 0) = 99",
                "plot(63, 1) = 9", "plot(0, 0) = 0", "plot(0, 1) = 9");
    }

    private static void hitPlots() {
        CHECKS.script("promise 18: the plot p is in the row p / 8 and the column p modulo 8",
                "hint(0, 7)", "plot(7, 4) = 1", "plot(8, 3) = 0", "takeBack(0)", "hint(1, 0)",
                "plot(8, 4) = 1", "plot(7, 3) = 0", "takeBack(1)", "hint(7, 7)", "plot(63, 4) = 1",
                "plot(55, 3) = 1", "plot(55, 4) = 0", "plot(62, 3) = 0");
        CHECKS.script("promise 18: paths that are left and hit it: all, one and none",
                "plot(3, 2) = 1994", "hint(0, 3) = 1994", "plot(3, 2) = 1994", "plot(2, 2) = 0",
                "takeBack(0)", "hint(0, 0)", "hint(7, 7) = 1", "plot(0, 2) = 1", "plot(9, 2) = 1",
                "plot(63, 2) = 1", "plot(1, 2) = 0", "plot(62, 2) = 0");
        CHECKS.script("promise 18: endangered if one path that is left hits it",
                "plot(0, 3) = 1", "plot(63, 3) = 1", "hint(0..6, 0)", "plot(56, 2) = 1",
                "plot(56, 3) = 1", "plot(57, 3) = 1", "plot(58, 2) = 0", "plot(58, 3) = 0",
                "plot(48, 3) = 1", "plot(49, 3) = 0");
        CHECKS.script("promise 18: doomed if all hit it, not if all but one do",
                "plot(0, 4) = 0", "hint(0..5, 0)", "hint(7, 1) = 2", "plot(0, 4) = 1",
                "plot(48, 2) = 1", "plot(48, 4) = 0", "plot(49, 4) = 0", "plot(57, 2) = 2",
                "plot(57, 4) = 1", "hint(6, 1) = 1", "plot(49, 4) = 1", "plot(48, 4) = 0");
        CHECKS.script("promise 18: at most 0 columns away",
                "hint(3, 4) = 2160", "plot(27, 3) = 0", "plot(28, 4) = 1", "plot(29, 3) = 0");
        CHECKS.script("promise 18: at most 1 column away",
                "set(1, 1)", "hint(3, 4) = 2160", "plot(26, 3) = 0", "plot(27..29, 4) = 1",
                "plot(30, 3) = 0", "plot(27, 2) = 2160");
        CHECKS.script("promise 18: at most 2 columns away",
                "set(1, 2)", "hint(3, 4) = 2160", "plot(25, 3) = 0", "plot(26..30, 4) = 1",
                "plot(31, 3) = 0", "plot(26, 2) = 2160");
        CHECKS.script("promise 18: columns away are counted within the row",
                "set(1, 2)", "hint(3, 7) = 455", "plot(28, 3) = 0", "plot(29..31, 4) = 1",
                "plot(32, 2) = 0", "plot(33, 2) = 0", "takeBack(3)", "hint(3, 0) = 455",
                "plot(22, 2) = 0", "plot(23, 2) = 0", "plot(24..26, 4) = 1", "plot(27, 3) = 0");
        CHECKS.script("promise 18: each path counts once, with any reach, at the edges too",
                "set(1, 1)", "plot(0, 2) = 2122", "plot(7, 2) = 2122", "plot(3, 2) = 5779",
                "set(1, 2)", "plot(0, 2) = 3913", "plot(63, 2) = 3913", "plot(1, 2) = 5907",
                "plot(3, 2) = 8942");
    }

    private static void standsToLose() {
        CHECKS.script("promise 18: what it stands to lose is rounded down, with all paths left",
                "grow(0, 15)", "plot(0, 5) = 0", "grow(0, 16)", "plot(0, 5) = 1", "grow(0, 99)",
                "plot(0, 5) = 6", "grow(28, 99)", "plot(28, 5) = 18");
        CHECKS.script("promise 18: one path of two: rounded down from a half",
                "hint(0..6, 0)", "grow(57, 1)", "plot(57, 5) = 0", "grow(57, 2)", "plot(57, 5) = 1",
                "grow(57, 3)", "plot(57, 5) = 1", "grow(57, 99)", "plot(57, 5) = 49");
        CHECKS.script("promise 18: two paths of three: rounded down from two thirds",
                "set(1, 1)", "hint(0..6, 4)", "count(5) = 3", "plot(61, 2) = 2", "grow(61, 1)",
                "plot(61, 5) = 0", "grow(61, 2)", "plot(61, 5) = 1", "grow(61, 3)",
                "plot(61, 5) = 2", "grow(61, 99)", "plot(61, 5) = 66");
        CHECKS.script("promise 18: all of its worth if doomed, nothing if not endangered",
                "hint(0..7, 7)", "grow(63, 99)", "grow(62, 99)", "plot(63, 5) = 99",
                "plot(62, 5) = 0", "plot(55, 5) = 0", "grow(55, 1)", "plot(55, 5) = 1");
        CHECKS.script("promise 18: without worth there is nothing to lose",
                "plot(0, 5) = 0", "hint(0..7, 0)", "plot(0, 5) = 0", "plot(56, 5) = 0");
    }

    private static void felledPlots() {
        CHECKS.script("promise 18: felled since the latest storm, also if trees grew there again",
                "plot(2, 6) = 0", "grow(2, 5)", "plot(2, 6) = 0", "fell(2) = 5", "plot(2, 6) = 1",
                "plot(1, 6) = 0", "plot(3, 6) = 0", "grow(2, 6)", "plot(2, 6) = 1", "fell(2) = 6",
                "plot(2, 6) = 1");
        CHECKS.script("promise 18: not felled if trees are taken away by grow()",
                "grow(2, 5)", "grow(2, 0) = 5", "plot(2, 6) = 0", "count(11) = 0");
        CHECKS.script("promise 18: no more behind a storm, also if it was not hit",
                "grow(0, 5)", "fell(0)", "grow(2, 5)", "fell(2)", "hint(0..7, 0)", "storm() = 0",
                "plot(0, 6) = 0", "plot(2, 6) = 0");
        CHECKS.script("promise 18: the last plot, and across days",
                "set(0, 30)", "endDays(1)", "go(1, 63)", "grow(63, 1)", "fell(1) = 1",
                "endDays(99)", "plot(63, 6) = 1", "plot(62, 6) = 0");
    }

    private static void crew() {
        CHECKS.script("promise 19: crew, 0 to 2: both ends and just outside",
                "crew(-1, 0) = UNKNOWN", "crew(0, 0) = 0", "crew(2, 0) = 2", "crew(3, 0) = UNKNOWN",
                "crew(least, 0) = UNKNOWN", "crew(greatest, 0) = UNKNOWN");
        CHECKS.script("promise 19: what, 0 to 3: both ends and just outside",
                "crew(1, -1) = BAD_VALUE", "crew(1, 0) = 1", "crew(1, 3) = 0",
                "crew(1, 4) = BAD_VALUE", "crew(1, least) = BAD_VALUE",
                "crew(1, greatest) = BAD_VALUE");
        CHECKS.script("promise 19: UNKNOWN comes ahead of BAD_VALUE",
                "crew(3, 4) = UNKNOWN", "crew(-1, -1) = UNKNOWN");
        CHECKS.script("promise 19: the last plot, the most steps and none",
                "set(0, 30)", "endDays(1)", "crew(2, 1) = 30", "go(2, 63) = 18", "crew(2, 0) = 63",
                "set(2, 9)", "grow(63, 1)", "fell(2)", "grow(63, 1)", "fell(2)", "crew(2, 1) = 0");
        CHECKS.script("promise 19: the worth and the plots that it saved and felled so far",
                "set(2, 1)", "grow(0..1, 99)", "fell(0) = 99", "go(0, 1)", "fell(0) = 99",
                "crew(0, 2) = 198", "crew(0, 3) = 2", "crew(1, 2) = 0", "crew(1, 3) = 0");
        CHECKS.script("promise 19: so far: also behind days and a storm",
                "grow(0, 5)", "fell(0)", "hint(0..7, 0)", "storm() = 0", "endDays(99)",
                "crew(0, 2) = 5", "crew(0, 3) = 1");
    }

    private static void row() {
        CHECKS.script("promise 20: row, 0 to 7: both ends and just outside",
                "row(-1, 1) = UNKNOWN", "row(0, 1) = 0", "row(7, 2) = 7", "row(8, 1) = UNKNOWN",
                "row(least, 1) = UNKNOWN", "row(greatest, 1) = UNKNOWN");
        CHECKS.script("promise 20: what, 0 to 2: both ends and just outside",
                "row(1, -1) = BAD_VALUE", "row(1, 0) = NONE", "row(1, 2) = 7",
                "row(1, 3) = BAD_VALUE", "row(1, least) = BAD_VALUE",
                "row(1, greatest) = BAD_VALUE");
        CHECKS.script("promise 20: UNKNOWN comes ahead of BAD_VALUE",
                "row(8, 3) = UNKNOWN", "row(-1, -1) = UNKNOWN");
        CHECKS.script("promise 20: the column that is told, NONE without a hint",
                "hint(0, 0)", "hint(7, 7)", "row(0, 0) = 0", "row(7, 0) = 7", "row(1..6, 0) = NONE",
                "takeBack(0)", "row(0, 0) = NONE");
        CHECKS.script("promise 20: all columns with all paths left, one with one path left",
                "row(0..7, 1) = 0", "row(0..7, 2) = 7", "hint(0, 7)", "hint(7, 0) = 1",
                "row(0, 1) = 7", "row(0, 2) = 7", "row(3, 1) = 4", "row(3, 2) = 4", "row(4, 1) = 3",
                "row(4, 2) = 3", "row(7, 1) = 0", "row(7, 2) = 0", "row(4, 0) = NONE");
        CHECKS.script("promise 20: one column more in each row below a hint, up to the edges",
                "hint(0, 0)", "row(0, 2) = 0", "row(1, 2) = 1", "row(6, 2) = 6", "row(7, 2) = 7",
                "row(0..7, 1) = 0", "takeBack(0)", "hint(0, 5)", "row(1, 2) = 6", "row(2, 2) = 7",
                "row(3, 2) = 7", "row(1, 1) = 4", "row(5, 1) = 0", "row(6, 1) = 0");
        CHECKS.script("promise 20: one column more in each row above a hint, up to the edges",
                "hint(7, 7)", "row(7, 1) = 7", "row(6, 1) = 6", "row(1, 1) = 1", "row(0, 1) = 0",
                "row(0..7, 2) = 7", "takeBack(7)", "hint(7, 2)", "row(6, 1) = 1", "row(5, 1) = 0",
                "row(4, 1) = 0", "row(6, 2) = 3", "row(2, 2) = 7", "row(1, 2) = 7");
        CHECKS.script("promise 20: between two hints a path must fit both of them",
                "hint(2, 3)", "hint(6, 6)", "row(3, 1) = 3", "row(3, 2) = 4", "row(4, 1) = 4",
                "row(4, 2) = 5", "row(5, 1) = 5", "row(5, 2) = 6", "row(7, 1) = 5",
                "row(7, 2) = 7");
    }

    private static void way() {
        CHECKS.script("promise 21: crew, 0 to 2, and plot, 0 to 63: both ends and just outside",
                "way(-1, 5) = UNKNOWN", "way(0, 5) = 5", "way(2, 5) = 3", "way(3, 5) = UNKNOWN",
                "way(1, -1) = UNKNOWN", "way(1, 0) = 1", "way(1, 63) = 13", "way(1, 64) = UNKNOWN",
                "way(3, 64) = UNKNOWN", "way(least, greatest) = UNKNOWN",
                "way(0, greatest) = UNKNOWN", "way(0, least) = UNKNOWN");
        CHECKS.script("promise 21: no step to where it is, with any mud",
                "way(0, 0) = 0", "way(2, 2) = 0", "rain(9)", "way(0, 0) = 0", "way(2, 2) = 0");
        CHECKS.script("promise 21: one more for each full 3 of mud: 0 to 9 of it",
                "way(0, 1) = 1", "rain(1)", "way(0, 1) = 1", "rain(1)", "way(0, 1) = 1", "rain(1)",
                "way(0, 1) = 2", "rain(1)", "way(0, 1) = 2", "rain(1)", "way(0, 1) = 2", "rain(1)",
                "way(0, 1) = 3", "rain(1)", "way(0, 1) = 3", "rain(1)", "way(0, 1) = 3", "rain(1)",
                "way(0, 1) = 4");
        CHECKS.script("promise 21: the mud of a day that ended makes it cheaper again",
                "rain(9)", "endDays(1)", "way(0, 1) = 3", "endDays(2)", "way(0, 1) = 3",
                "endDays(1)", "way(0, 1) = 2", "endDays(2)", "way(0, 1) = 2", "endDays(1)",
                "way(0, 1) = 1");
        CHECKS.script("promise 21: the longest way, with the least mud and the most",
                "way(0, 63) = 14", "rain(9)", "way(0, 63) = 56", "way(0, 7) = 28",
                "way(0, 56) = 28");
        CHECKS.script("promise 21: it is told also where the steps do not reach",
                "go(0, 36) = 0", "way(0, 0) = 8", "way(0, 63) = 6", "way(0, 7) = 7",
                "way(0, 56) = 7");
        CHECKS.script("promise 21: beside, above and below, not across the edge of a row",
                "go(2, 7)", "way(2, 6) = 1", "way(2, 15) = 1", "way(2, 8) = 8", "way(2, 14) = 2",
                "go(1, 8)", "way(1, 0) = 1", "way(1, 9) = 1", "way(1, 16) = 1", "way(1, 7) = 8");
        CHECKS.script("promise 21: it tells, no crew goes",
                "way(1, 63) = 13", "crew(1, 0) = 1", "crew(1, 1) = 8", "count(15) = 0");
    }

    private static void reason() {
        CHECKS.script("promise 22: crew, 0 to 2, and plot, 0 to 63: both ends and just outside",
                "reason(-1, 5) = UNKNOWN", "reason(0, 0) = 1", "reason(2, 63) = 1",
                "reason(3, 5) = UNKNOWN", "reason(1, -1) = UNKNOWN", "reason(1, 64) = UNKNOWN",
                "reason(3, 64) = UNKNOWN", "reason(least, 0) = UNKNOWN",
                "reason(0, greatest) = UNKNOWN", "reason(greatest, least) = UNKNOWN");
        CHECKS.script("promise 22: 0 if it can, with just as many steps as it takes",
                "grow(5, 1)", "reason(0, 5) = 0", "go(0, 5) = 3", "reason(0, 5) = 0", "fell(0) = 1",
                "crew(0, 1) = 0");
        CHECKS.script("promise 22: 3 if one step is too few to fell there",
                "grow(6, 99)", "reason(0, 6) = 3", "go(0, 6) = 2", "reason(0, 6) = 3",
                "fell(0) = NOT_POSSIBLE");
        CHECKS.script("promise 22: 3 if it comes there with no step left, 2 if one is too few",
                "grow(36, 1)", "grow(37, 1)", "reason(0, 36) = 3", "reason(0, 37) = 2",
                "go(0, 36) = 0", "reason(0, 36) = 3", "reason(0, 37) = 2");
        CHECKS.script("promise 22: 1 comes ahead of 2 and of 3",
                "reason(0, 63) = 1", "reason(0, 6) = 1", "go(0, 36) = 0", "reason(0, 36) = 1");
        CHECKS.script("promise 22: 2 comes ahead of 3",
                "set(2, 9)", "grow(0, 1)", "grow(63, 1)", "reason(0, 63) = 2", "reason(0, 0) = 3");
        CHECKS.script("promise 22: the least worth is one",
                "grow(0, 1)", "reason(0, 0) = 0", "grow(0, 0)", "reason(0, 0) = 1");
        CHECKS.script("promise 22: the fewest and the most steps to fell",
                "grow(7, 1)", "grow(15, 1)", "set(2, 1)", "reason(0, 7) = 0", "reason(0, 15) = 3",
                "set(2, 9)", "set(0, 9)", "endDays(1)", "grow(0, 1)", "reason(0, 0) = 0",
                "reason(1, 0) = 3");
        CHECKS.script("promise 22: mud on the way, just below and at a full 3",
                "grow(3, 1)", "rain(2)", "reason(0, 3) = 0", "rain(1)", "reason(0, 3) = 3",
                "rain(3)", "reason(0, 3) = 2");
        CHECKS.script("promise 22: the last plot with just as many steps as it takes",
                "grow(63, 1)", "set(0, 17)", "endDays(1)", "reason(0, 63) = 0", "set(0, 16)",
                "endDays(1)", "reason(0, 63) = 3", "set(0, 13)", "endDays(1)", "reason(0, 63) = 2");
    }

    private static void best() {
        CHECKS.script("promise 23: crew, 0 to 2: both ends and just outside",
                "grow(0, 5)", "best(-1) = UNKNOWN", "best(0) = 0", "best(2) = 0",
                "best(3) = UNKNOWN", "best(least) = UNKNOWN", "best(greatest) = UNKNOWN");
        CHECKS.script("promise 23: UNKNOWN comes ahead of NONE",
                "best(3) = UNKNOWN", "best(-1) = UNKNOWN", "best(0..2) = NONE");
        CHECKS.script("promise 23: NONE in a wood without trees",
                "best(0..2) = NONE", "grow(0, 1)", "grow(0, 0)", "best(0..2) = NONE");
        CHECKS.script("promise 23: NONE if the only plot is one step too far to be felled",
                "grow(6, 99)", "best(0) = NONE", "best(1) = 6", "grow(5, 1)", "best(0) = 5");
        CHECKS.script("promise 23: NONE if no steps are left",
                "go(0, 36) = 0", "grow(36, 99)", "best(0) = NONE", "set(2, 1)", "best(0) = NONE",
                "endDays(1)", "best(0) = 36");
        CHECKS.script("promise 23: the last plot, with just as many steps as it takes",
                "grow(63, 1)", "set(0, 17)", "endDays(1)", "best(0) = 63", "best(2) = 63",
                "set(0, 16)", "endDays(1)", "best(0) = NONE", "best(1) = 63");
        CHECKS.script("promise 23: the plot on which it stands, the first one",
                "grow(0, 1)", "set(2, 8)", "best(0) = 0", "best(1) = NONE");
    }

    private static void bestOfSeveral() {
        CHECKS.script("promise 23: the one that stands to lose the most, by one",
                "hint(0..7, 0)", "grow(1, 99)", "grow(8, 1)", "best(0) = 8", "grow(16, 2)",
                "best(0) = 16", "grow(8, 3)", "best(0) = 8");
        CHECKS.script("promise 23: what it stands to lose is rounded down ahead of that",
                "grow(0, 20)", "grow(1, 17)", "plot(0, 5) = 1", "plot(1, 5) = 1", "best(1) = 0",
                "grow(1, 18)", "plot(1, 5) = 2", "best(1) = 1");
        CHECKS.script("promise 23: of several the one with the greatest worth, by one",
                "hint(0..7, 7)", "grow(0, 98)", "grow(18, 99)", "best(0) = 18", "grow(1, 99)",
                "grow(2, 98)", "best(2) = 1", "grow(0, 99)", "grow(1, 98)", "grow(18, 98)",
                "best(2) = 0");
        CHECKS.script("promise 23: of these that with the shortest way, by one step",
                "hint(0..7, 7)", "grow(0, 9)", "grow(10, 9)", "best(2) = 10", "best(0) = 0",
                "best(1) = 0", "grow(9, 9)", "best(1) = 0", "grow(0, 0)", "best(1) = 9");
        CHECKS.script("promise 23: of these the lowest one",
                "hint(0..7, 7)", "grow(1, 9)", "grow(3, 9)", "grow(10, 9)", "best(2) = 1",
                "grow(1, 0)", "best(2) = 3", "grow(3, 0)", "best(2) = 10");
        CHECKS.script("promise 23: of equal plots in one row and in one column",
                "hint(0..7, 7)", "grow(0..6, 9)", "grow(8..14, 9)", "best(0) = 0", "best(1) = 1",
                "best(2) = 2", "fell(0)", "best(0) = 1", "go(1, 9)", "fell(1)", "best(1) = 1");
        CHECKS.script("promise 23: one that it cannot fell does not count, however much it loses",
                "hint(0..7, 0)", "grow(56, 99)", "grow(1, 1)", "best(0) = 1", "grow(40, 1)",
                "best(0) = 40", "best(1) = 1", "grow(48, 99)", "best(0) = 40");
    }

    private static void openRow() {
        CHECKS.script("promise 24: of several the lowest: all rows with all paths left",
                "openRow() = 0");
        CHECKS.script("promise 24: the last row alone has the most columns",
                "hint(0, 0)", "openRow() = 7", "takeBack(0)", "hint(3, 0)", "openRow() = 7");
        CHECKS.script("promise 24: the first row alone has the most columns",
                "hint(7, 7)", "openRow() = 0", "takeBack(7)", "hint(4, 0)", "openRow() = 0");
        CHECKS.script("promise 24: the lowest of those between two hints",
                "hint(0, 0)", "hint(7, 6) = 7", "openRow() = 1", "hint(1, 1)", "openRow() = 2",
                "takeBack(1)", "hint(1, 0)", "openRow() = NONE");
        CHECKS.script("promise 24: two paths left: the one row in which they differ",
                "hint(0..6, 0)", "openRow() = 7", "takeBack(3)", "hint(7, 0) = 2", "openRow() = 3",
                "takeBack(0)", "hint(3, 0) = 2", "openRow() = 0");
        CHECKS.script("promise 24: NONE if one path alone is left, by two hints or by eight",
                "hint(0, 0)", "hint(7, 7) = 1", "openRow() = NONE", "takeBack(0)", "openRow() = 0",
                "hint(0..6, 7)", "openRow() = NONE");
        CHECKS.script("promise 24: a row again behind a storm and behind takeBack()",
                "hint(0..7, 3)", "openRow() = NONE", "takeBack(7)", "openRow() = 7", "hint(7, 4)",
                "storm() = 0", "openRow() = 0");
    }

    private static void ifTold() {
        CHECKS.script("promise 25: row, 0 to 7: both ends and just outside",
                "ifTold(-1, 0) = UNKNOWN", "ifTold(0, 0) = 750", "ifTold(7, 0) = 750",
                "ifTold(8, 0) = UNKNOWN", "ifTold(least, 0) = UNKNOWN",
                "ifTold(greatest, 0) = UNKNOWN");
        CHECKS.script("promise 25: column, 0 to 7: both ends and just outside",
                "ifTold(3, -1) = BAD_VALUE", "ifTold(3, 0) = 455", "ifTold(3, 7) = 455",
                "ifTold(3, 8) = BAD_VALUE", "ifTold(3, least) = BAD_VALUE",
                "ifTold(3, greatest) = BAD_VALUE", "ifTold(4, 7) = 455");
        CHECKS.script("promise 25: UNKNOWN comes ahead of BAD_VALUE",
                "ifTold(8, 8) = UNKNOWN", "ifTold(-1, -1) = UNKNOWN", "ifTold(-1, 8) = UNKNOWN");
        CHECKS.script("promise 25: 0 if no path would be left, 1 if one would",
                "hint(0, 0)", "ifTold(7, 7) = 1", "ifTold(1, 2) = 0", "ifTold(6, 7) = 0",
                "ifTold(6, 6) = 3", "ifTold(1, 1) = 483", "ifTold(1, 0) = 267");
        CHECKS.script("promise 25: 0 if another column is told already, all if that one is",
                "hint(3, 4)", "ifTold(3, 4) = 2160", "ifTold(3, 3) = 0", "ifTold(3, 5) = 0",
                "ifTold(3, 0) = 0", "ifTold(3, 7) = 0");
        CHECKS.script("promise 25: one path left: 1 in its columns and 0 in all others",
                "hint(0, 7)", "hint(7, 0) = 1", "ifTold(0, 7) = 1", "ifTold(7, 0) = 1",
                "ifTold(3, 4) = 1", "ifTold(3, 3) = 0", "ifTold(3, 5) = 0", "ifTold(0..6, 0) = 0",
                "ifTold(1..7, 7) = 0");
        CHECKS.script("promise 25: the greatest number of all, and of the edges",
                "ifTold(3, 3) = 2160", "ifTold(4, 4) = 2160", "ifTold(0, 7) = 750",
                "ifTold(7, 7) = 750", "ifTold(1, 0) = 534");
        CHECKS.script("promise 25: the reach of the storm does not matter",
                "set(1, 2)", "ifTold(0, 0) = 750", "hint(0, 0)", "ifTold(0, 1) = 0");
        CHECKS.script("promise 25: it tells, nothing is told to the storm",
                "ifTold(0, 0) = 750", "count(6) = 0", "count(5) = 11814", "count(15) = 0");
    }

    private static void count() {
        CHECKS.script("promise 26: what, 0 to 16: both ends and just outside",
                "count(-1) = BAD_VALUE", "count(0) = 0", "count(16) = 0", "count(17) = BAD_VALUE",
                "count(least) = BAD_VALUE", "count(greatest) = BAD_VALUE");
        CHECKS.script("promise 26: 0 for the day, up to the greatest one",
                "count(0) = 0", "101 x endDays(99)", "count(0) = 9999");
        CHECKS.script("promise 26: 5 for paths that are left: all, two and one",
                "count(5) = 11814", "hint(0..6, 7)", "count(5) = 2", "hint(7, 7)", "count(5) = 1");
        CHECKS.script("promise 26: 6 for hints: none, one and eight",
                "count(6) = 0", "hint(7, 0)", "count(6) = 1", "hint(0..6, 0)", "count(6) = 8");
        CHECKS.script("promise 26: 12 to 14 for the settings, the least ones",
                "set(0, 1)", "set(1, 2)", "set(2, 1)", "count(12) = 1", "count(13) = 2",
                "count(14) = 1", "set(1, 0)", "count(13) = 0");
        CHECKS.script("promise 26: 12 to 14 for the settings, the greatest ones",
                "set(0, 30)", "set(1, 2)", "set(2, 9)", "count(12) = 30", "count(13) = 2",
                "count(14) = 9");
        CHECKS.script("promise 26: 15 for the states in the history: none, one, four and no more",
                "count(15) = 0", "rain(1)", "count(15) = 1", "rain(1)", "rain(1)", "count(15) = 3",
                "rain(1)", "count(15) = 4", "rain(1)", "count(15) = 4", "undo()", "count(15) = 3");
        CHECKS.script("promise 26: 16 for the length of the text: none, one, sixty and no more",
                "count(16) = 0", "type('r')", "count(16) = 1", "59 x type('r')", "count(16) = 60",
                "type('r') = FULL", "count(16) = 60", "clearText()", "count(16) = 0");
    }

    private static void countOfPlots() {
        CHECKS.script("promise 26: 1 for the worth of all plots, the greatest one",
                "count(1) = 0", "grow(63, 1)", "count(1) = 1", "grow(0..63, 99)",
                "count(1) = 6336");
        CHECKS.script("promise 26: 2 for endangered plots: all and those of one path",
                "count(2) = 64", "hint(0..7, 0)", "count(2) = 8", "set(1, 1)", "count(2) = 16",
                "set(1, 2)", "count(2) = 24");
        CHECKS.script("promise 26: 2 for endangered plots: at most 40 with one path left",
                "set(1, 2)", "hint(0..7, 3)", "count(2) = 40", "set(1, 1)", "count(2) = 24",
                "set(1, 0)", "count(2) = 8");
        CHECKS.script("promise 26: 3 for doomed ones: none, some and all that are endangered",
                "count(3) = 0", "set(1, 2)", "count(3) = 0", "hint(0, 3)", "count(3) = 9",
                "set(1, 0)", "count(3) = 1", "hint(1..7, 3)", "count(3) = 8", "set(1, 2)",
                "count(3) = 40");
        CHECKS.script("promise 26: 3 for doomed ones: the first plot and the last among them",
                "hint(0, 0)", "count(3) = 1", "hint(7, 7) = 1", "count(3) = 8", "set(1, 1)",
                "count(3) = 22", "set(1, 2)", "count(3) = 34", "takeBack(0)", "set(1, 0)",
                "count(3) = 1");
        CHECKS.script("promise 26: 2 for endangered plots: the first plot and the last among them",
                "hint(0, 0)", "hint(7, 7) = 1", "count(2) = 8", "set(1, 1)", "count(2) = 22",
                "takeBack(0)", "set(1, 0)", "count(2) = 36", "takeBack(7)", "hint(0, 0)",
                "count(2) = 36");
        CHECKS.script("promise 26: 4 for what all stand to lose: the first plot and the last",
                "hint(0, 0)", "hint(7, 7) = 1", "grow(0, 5)", "count(4) = 5", "grow(63, 6)",
                "count(4) = 11", "grow(62, 99)", "count(4) = 11", "storm() = 11", "count(4)",
                "grow(62, 0)", "count(4) = 0");
        CHECKS.script("promise 26: 4 for what all stand to lose, each rounded down by itself",
                "hint(0..6, 0)", "grow(56, 3)", "grow(57, 3)", "count(4) = 2", "grow(56, 1)",
                "count(4) = 1", "grow(57, 1)", "count(4) = 0", "grow(48, 5)", "count(4) = 5");
        CHECKS.script("promise 26: 4 for what all stand to lose, the greatest number",
                "set(1, 2)", "grow(0..63, 99)", "hint(0..7, 3)", "count(4) = 3960",
                "storm() = 3960", "count(1) = 2376");
    }

    private static void countOfDeeds() {
        CHECKS.script("promise 26: 7 for the worth saved so far, by all crews",
                "grow(0, 99)", "grow(1, 1)", "grow(2, 50)", "count(7) = 0", "fell(0)",
                "count(7) = 99", "fell(1)", "count(7) = 100", "fell(2)", "count(7) = 150",
                "hint(0..7, 0)", "storm()", "count(7) = 150");
        CHECKS.script("promise 26: 8 for that lost so far, in all storms",
                "grow(0, 99)", "hint(0..7, 0)", "storm() = 99", "count(8) = 99", "grow(0, 1)",
                "hint(0..7, 0)", "storm() = 1", "count(8) = 100", "hint(0..7, 0)", "storm() = 0",
                "count(8) = 100");
        CHECKS.script("promise 26: 9 for what was regretted so far, in all storms",
                "grow(1, 5)", "fell(1)", "grow(0, 99)", "hint(0..7, 0)", "storm() = 99",
                "count(9) = 99", "grow(1, 5)", "fell(1)", "grow(0, 1)", "hint(0..7, 0)",
                "storm() = 1", "count(9) = 100", "hint(0..7, 0)", "storm() = 0", "count(9) = 100");
        CHECKS.script("promise 26: 10 for storms so far",
                "count(10) = 0", "storm() = NOT_POSSIBLE", "count(10) = 0", "hint(0..7, 0)",
                "storm()", "count(10) = 1", "hint(0..7, 7)", "storm()", "count(10) = 2");
        CHECKS.script("promise 26: 11 for plots felled: the first plot and the last",
                "set(0, 30)", "endDays(1)", "grow(0, 1)", "fell(0)", "count(11) = 1", "go(2, 63)",
                "grow(63, 1)", "fell(2)", "count(11) = 2");
        CHECKS.script("promise 26: 11 for plots felled since the latest storm, each once",
                "set(2, 1)", "count(11) = 0", "grow(1, 5)", "fell(1)", "count(11) = 1",
                "grow(1, 5)", "fell(1)", "count(11) = 1", "go(0, 1)", "grow(1, 5)", "fell(0)",
                "count(11) = 1", "grow(2, 5)", "fell(2)", "count(11) = 2", "hint(0..7, 0)",
                "storm()", "count(11) = 0", "grow(1, 5)", "fell(1)", "count(11) = 1");
    }
}
