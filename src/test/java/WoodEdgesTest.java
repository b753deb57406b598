/** Promises 1 to 7: a test of its own for each sentence that names an edge. Rows: see Script. */
public final class WoodEdgesTest {
    private static final Checks CHECKS = new Checks();

    public static void main(String[] arguments) {
        newObject();
        grow();
        rain();
        endDays();
        daysAtTheEnd();
        set();
        ways();
        go();
        fell();
        CHECKS.end();
    }

    private static void newObject() {
        CHECKS.script("promise 1: without trees: each plot has 0 of worth at first",
                "count(1) = 0", "plot(0, 0) = 0", "plot(63, 0) = 0", "grow(0, 0) = NONE",
                "grow(63, 0) = NONE");
        CHECKS.script("promise 1: without mud: each plot has 0 of it at first",
                "plot(0, 1) = 0", "plot(63, 1) = 0", "rain(1) = 0", "plot(0, 1) = 1");
        CHECKS.script("promise 1: without hints: all paths are left",
                "count(6) = 0", "row(0, 0) = NONE", "row(7, 0) = NONE", "count(5) = 11814",
                "takeBack(0) = NONE", "takeBack(7) = NONE");
        CHECKS.script("promise 1: on the day 0",
                "count(0) = 0", "keep() = 0", "endDays(1) = 1");
        CHECKS.script("promise 1: crews have their steps, 8 at first",
                "crew(0, 1) = 8", "crew(1, 1) = 8", "crew(2, 1) = 8");
        CHECKS.script("promise 1: the crew k is on the plot k at first",
                "crew(0, 0) = 0", "crew(1, 0) = 1", "crew(2, 0) = 2", "go(0, 0) = NONE",
                "go(1, 1) = NONE", "go(2, 2) = NONE");
        CHECKS.script("promise 1: the settings are 8, 0 and 3 at first",
                "count(12) = 8", "count(13) = 0", "count(14) = 3", "set(0, 8) = NONE",
                "set(1, 0) = NONE", "set(2, 3) = NONE");
        CHECKS.script("promise 1: the text is empty at first",
                "count(16) = 0", "perform() = -100", "clearText() = 0");
        CHECKS.script("promise 1: the history is empty at first",
                "count(15) = 0", "undo() = NONE");
        CHECKS.script("promise 1: the snapshot is empty at first",
                "restore() = NONE");
        CHECKS.script("promise 1: nothing was stopped yet",
                "stopped(0) = NONE", "stopped(1) = NONE");
        CHECKS.script("promise 1: nothing is saved, lost, regretted or felled, no storm came",
                "count(7) = 0", "count(8) = 0", "count(9) = 0", "count(10) = 0", "count(11) = 0",
                "plot(0, 6) = 0", "plot(63, 6) = 0", "crew(2, 2) = 0", "crew(2, 3) = 0");
    }

    private static void grow() {
        CHECKS.script("promise 2: plot, 0 to 63: both ends and just outside",
                "grow(-1, 5) = UNKNOWN", "grow(0, 5) = 0", "grow(63, 5) = 0",
                "grow(64, 5) = UNKNOWN");
        CHECKS.script("promise 2: plot, 0 to 63: far outside",
                "grow(least, 5) = UNKNOWN", "grow(greatest, 5) = UNKNOWN",
                "grow(128, 5) = UNKNOWN");
        CHECKS.script("promise 2: worth, 0 to 99: both ends and just outside",
                "grow(9, -1) = BAD_VALUE", "grow(9, 99) = 0", "grow(9, 100) = BAD_VALUE",
                "grow(9, 0) = 99", "grow(9, 1) = 0");
        CHECKS.script("promise 2: worth, 0 to 99: far outside",
                "grow(9, least) = BAD_VALUE", "grow(9, greatest) = BAD_VALUE");
        CHECKS.script("promise 2: UNKNOWN comes ahead of BAD_VALUE",
                "grow(64, 100) = UNKNOWN", "grow(-1, -1) = UNKNOWN",
                "grow(least, greatest) = UNKNOWN");
        CHECKS.script("promise 2: NONE if it is so already, with the least worth and the greatest",
                "grow(5, 0) = NONE", "grow(5, 99) = 0", "grow(5, 99) = NONE", "grow(5, 98) = 99",
                "grow(5, 99) = 98");
        CHECKS.script("promise 2: it has this worth then, nothing is added to the previous one",
                "grow(5, 60) = 0", "grow(5, 50) = 60", "plot(5, 0) = 50");
        CHECKS.script("promise 2: trees grow on this plot alone",
                "grow(63, 99) = 0", "plot(62, 0) = 0", "plot(55, 0) = 0", "grow(0, 7) = 0",
                "plot(1, 0) = 0", "plot(8, 0) = 0", "count(1) = 106");
        CHECKS.script("promise 2: an act, also with the answer 0",
                "grow(0, 1) = 0", "count(15) = 1", "undo() = 0", "plot(0, 0) = 0");
        CHECKS.script("promise 2: trees grow again on a plot that was felled",
                "grow(0, 5)", "fell(0) = 5", "grow(0, 0) = NONE", "grow(0, 99) = 0");
    }

    private static void rain() {
        CHECKS.script("promise 3: mud, 1 to 9: both ends and just outside",
                "rain(0) = BAD_VALUE", "rain(1) = 0", "rain(10) = BAD_VALUE", "rain(9) = 64");
        CHECKS.script("promise 3: mud, 1 to 9: far outside",
                "rain(least) = BAD_VALUE", "rain(-1) = BAD_VALUE", "rain(greatest) = BAD_VALUE");
        CHECKS.script("promise 3: the mud becomes more, but at most 9: just below, at and above it",
                "rain(4) = 0", "plot(0, 1) = 4", "rain(4) = 0", "plot(0, 1) = 8", "rain(1) = 64",
                "plot(0, 1) = 9", "rain(1) = 64", "plot(0, 1) = 9", "rain(9) = 64",
                "plot(63, 1) = 9");
        CHECKS.script("promise 3: at most 9, passed over by one",
                "rain(5) = 0", "rain(5) = 64", "plot(0, 1) = 9", "plot(31, 1) = 9");
        CHECKS.script("promise 3: the plots that have 9 then: none with 8, all at once with 9",
                "rain(8) = 0", "undo() = 0", "rain(9) = 64", "endDays(1) = 1", "rain(1) = 64");
        CHECKS.script("promise 3: an act, also with the answer 0 and with mud that stays",
                "rain(1) = 0", "count(15) = 1", "rain(9) = 64", "rain(9) = 64", "count(15) = 3",
                "undo() = 2", "plot(0, 1) = 9", "undo() = 1", "plot(0, 1) = 1");
    }

    private static void endDays() {
        CHECKS.script("promise 4: days, 1 to 99: both ends and just outside",
                "endDays(0) = BAD_VALUE", "endDays(1) = 1", "endDays(99) = 100",
                "endDays(100) = BAD_VALUE");
        CHECKS.script("promise 4: days, 1 to 99: far outside",
                "endDays(least) = BAD_VALUE", "endDays(-1) = BAD_VALUE",
                "endDays(greatest) = BAD_VALUE");
        CHECKS.script("promise 4: the mud of each plot that has some becomes 1 less",
                "rain(9)", "endDays(1) = 1", "plot(0, 1) = 8", "plot(63, 1) = 8", "endDays(7) = 8",
                "plot(0, 1) = 1", "endDays(1) = 9", "plot(0, 1) = 0");
        CHECKS.script("promise 4: a plot without mud stays so",
                "endDays(1) = 1", "plot(0, 1) = 0", "rain(1) = 0", "plot(0, 1) = 1");
        CHECKS.script("promise 4: more days than there is mud",
                "rain(9)", "endDays(10) = 10", "plot(0, 1) = 0", "plot(63, 1) = 0", "rain(8) = 0",
                "endDays(99) = 109", "plot(0, 1) = 0", "rain(1) = 0", "plot(0, 1) = 1");
        CHECKS.script("promise 4: as a day begins a crew has as many steps as the setting 0 tells",
                "go(0, 36) = 0", "go(1, 2) = 7", "endDays(1)", "crew(0, 1) = 8", "crew(1, 1) = 8",
                "crew(2, 1) = 8", "crew(0, 0) = 36", "crew(1, 0) = 2");
        CHECKS.script("promise 4: the fewest steps of a day, 1, and the most, 30",
                "set(0, 1)", "endDays(1)", "crew(0, 1) = 1", "crew(2, 1) = 1", "set(0, 30)",
                "endDays(99)", "crew(0, 1) = 30", "crew(1, 1) = 30", "crew(2, 1) = 30");
        CHECKS.script("promise 4: an act; the days of one call are undone at once",
                "rain(5)", "go(0, 2) = 4", "endDays(99) = 99", "count(15) = 3", "undo() = 2",
                "count(0) = 0", "plot(0, 1) = 5", "crew(0, 1) = 4");
    }

    private static void daysAtTheEnd() {
        CHECKS.script("promise 4: the greatest day, 9999, is reached",
                "101 x endDays(99)", "count(0) = 9999");
        CHECKS.script("promise 4: FULL if it would be beyond 9999, by one day and by many",
                "100 x endDays(99)", "endDays(98) = 9998", "endDays(2) = FULL",
                "endDays(99) = FULL", "endDays(1) = 9999", "endDays(1) = FULL",
                "endDays(99) = FULL");
        CHECKS.script("promise 4: BAD_VALUE comes ahead of FULL",
                "101 x endDays(99)", "endDays(0) = BAD_VALUE", "endDays(100) = BAD_VALUE",
                "endDays(greatest) = BAD_VALUE", "endDays(least) = BAD_VALUE");
        CHECKS.script("promise 4: what FULL refuses dries no mud and gives no steps",
                "101 x endDays(99)", "rain(9)", "go(2, 3) = 4", "endDays(1) = FULL",
                "plot(0, 1) = 9", "crew(2, 1) = 4", "count(0) = 9999");
    }

    private static void set() {
        CHECKS.script("promise 5: which, 0 to 2: both ends and just outside",
                "set(-1, 1) = UNKNOWN", "set(0, 1) = 8", "set(2, 1) = 3", "set(3, 1) = UNKNOWN",
                "set(least, 1) = UNKNOWN", "set(greatest, 1) = UNKNOWN");
        CHECKS.script("promise 5: the setting 0, 1 to 30: both ends and just outside",
                "set(0, 0) = BAD_VALUE", "set(0, 1) = 8", "set(0, 30) = 1",
                "set(0, 31) = BAD_VALUE", "count(12) = 30", "set(0, least) = BAD_VALUE",
                "set(0, greatest) = BAD_VALUE");
        CHECKS.script("promise 5: the setting 1, 0 to 2: both ends and just outside",
                "set(1, -1) = BAD_VALUE", "set(1, 2) = 0", "set(1, 0) = 2", "set(1, 3) = BAD_VALUE",
                "count(13) = 0", "set(1, least) = BAD_VALUE", "set(1, greatest) = BAD_VALUE");
        CHECKS.script("promise 5: the setting 2, 1 to 9: both ends and just outside",
                "set(2, 0) = BAD_VALUE", "set(2, 1) = 3", "set(2, 9) = 1", "set(2, 10) = BAD_VALUE",
                "count(14) = 9", "set(2, least) = BAD_VALUE", "set(2, greatest) = BAD_VALUE");
        CHECKS.script("promise 5: UNKNOWN comes ahead of BAD_VALUE",
                "set(3, 0) = UNKNOWN", "set(-1, 31) = UNKNOWN", "set(3, -1) = UNKNOWN");
        CHECKS.script("promise 5: NONE if it is so already, at both ends of each range",
                "set(0, 30)", "set(0, 30) = NONE", "set(0, 1)", "set(0, 1) = NONE", "set(1, 2)",
                "set(1, 2) = NONE", "set(1, 0)", "set(1, 0) = NONE", "set(2, 9)",
                "set(2, 9) = NONE", "set(2, 1)", "set(2, 1) = NONE");
        CHECKS.script("promise 5: steps that are left today stay, above the setting and below it",
                "set(0, 1) = 8", "crew(0, 1) = 8", "go(0, 3) = 5", "set(0, 30) = 1",
                "crew(0, 1) = 5", "crew(1, 1) = 8", "endDays(1)", "crew(0, 1) = 30");
        CHECKS.script("promise 5: one setting is set alone",
                "set(0, 2)", "count(13) = 0", "count(14) = 3", "set(1, 1)", "count(12) = 2",
                "count(14) = 3", "set(2, 9)", "count(12) = 2", "count(13) = 1");
        CHECKS.script("promise 5: an act, also with the answer 0",
                "set(1, 2) = 0", "count(15) = 1", "undo() = 0", "count(13) = 0");
    }

    private static void ways() {
        CHECKS.script("promise 6: one more step for each full 3 of mud: 2, 3, 5, 6, 8 and 9 of it",
                "rain(2)", "go(0, 1) = 7", "rain(1)", "go(0, 0) = 5", "rain(2)", "go(0, 1) = 3",
                "rain(1)", "go(0, 0) = 0", "rain(2)", "go(1, 2) = 5", "rain(1)", "go(1, 1) = 1");
        CHECKS.script("promise 6: a row ends at its edge: the plot 8 is not beside the plot 7",
                "go(2, 7) = 3", "go(2, 8) = NOT_POSSIBLE", "go(2, 15) = 2",
                "go(2, 16) = NOT_POSSIBLE", "go(2, 7) = 1");
        CHECKS.script("promise 6: above and below are 8 plots away",
                "go(0, 8) = 7", "go(0, 16) = 6", "go(0, 0) = 4", "go(1, 9) = 7", "go(1, 1) = 6");
        CHECKS.script("promise 6: no plot is aslant of another",
                "go(0, 9) = 6", "go(0, 0) = 4", "go(2, 9) = 6", "go(2, 2) = 4");
    }

    private static void go() {
        CHECKS.script("promise 6: crew, 0 to 2: both ends and just outside",
                "go(-1, 5) = UNKNOWN", "go(0, 5) = 3", "go(2, 5) = 5", "go(3, 5) = UNKNOWN",
                "go(least, 5) = UNKNOWN", "go(greatest, 5) = UNKNOWN");
        CHECKS.script("promise 6: plot, 0 to 63: both ends and just outside",
                "set(0, 30)", "endDays(1)", "go(1, -1) = UNKNOWN", "go(1, 0) = 29",
                "go(1, 63) = 15", "go(1, 64) = UNKNOWN", "go(1, least) = UNKNOWN",
                "go(1, greatest) = UNKNOWN");
        CHECKS.script("promise 6: both the crew and the plot are unknown",
                "go(3, 64) = UNKNOWN", "go(-1, -1) = UNKNOWN");
        CHECKS.script("promise 6: UNKNOWN comes ahead of NOT_POSSIBLE",
                "go(0, 36) = 0", "go(3, 63) = UNKNOWN", "go(0, 64) = UNKNOWN",
                "go(0, -1) = UNKNOWN");
        CHECKS.script("promise 6: as many steps as it has, and one too few",
                "go(0, 37) = NOT_POSSIBLE", "go(0, 36) = 0", "go(0, 35) = NOT_POSSIBLE");
        CHECKS.script("promise 6: too few steps by one because of mud",
                "rain(3)", "go(0, 4) = 0", "rain(3)", "go(1, 4) = NOT_POSSIBLE", "go(1, 3) = 2",
                "go(1, 2) = NOT_POSSIBLE");
        CHECKS.script("promise 6: NONE if it is there, also without steps and with the most mud",
                "go(0, 0) = NONE", "go(0, 36) = 0", "rain(9)", "go(0, 36) = NONE",
                "go(2, 2) = NONE");
        CHECKS.script("promise 6: the longest way, from the first plot to the last and back",
                "set(0, 30)", "endDays(1)", "go(0, 63) = 16", "go(0, 0) = 2", "rain(3)",
                "go(0, 1) = 0", "endDays(1)", "go(0, 0)", "go(0, 63) = 15");
        CHECKS.script("promise 6: crews do not hinder one another on a plot or on the way",
                "go(0, 1) = 7", "go(0, 2) = 6", "go(0, 3) = 5", "go(1, 3) = 6", "go(2, 3) = 7",
                "crew(0, 0) = 3", "crew(1, 0) = 3", "crew(2, 0) = 3");
        CHECKS.script("promise 6: the steps and places of the other crews stay",
                "go(1, 63) = NOT_POSSIBLE", "go(1, 37) = 0", "crew(0, 1) = 8", "crew(2, 1) = 8",
                "crew(0, 0) = 0", "crew(2, 0) = 2");
        CHECKS.script("promise 6: an act, also with the answer 0",
                "go(0, 36) = 0", "count(15) = 1", "undo() = 0", "crew(0, 0) = 0", "crew(0, 1) = 8");
    }

    private static void fell() {
        CHECKS.script("promise 7: crew, 0 to 2: both ends and just outside",
                "grow(0, 5)", "grow(2, 6)", "fell(-1) = UNKNOWN", "fell(0) = 5", "fell(2) = 6",
                "fell(3) = UNKNOWN", "fell(least) = UNKNOWN", "fell(greatest) = UNKNOWN");
        CHECKS.script("promise 7: as many steps left as it takes, and one too few",
                "grow(0, 5)", "go(0, 5) = 3", "grow(5, 9)", "fell(0) = 9", "crew(0, 1) = 0",
                "grow(7, 9)", "go(2, 7) = 3", "go(2, 6) = 2", "grow(6, 8)",
                "fell(2) = NOT_POSSIBLE", "set(2, 2)", "fell(2) = 8", "crew(2, 1) = 0");
        CHECKS.script("promise 7: the fewest steps that it can take, 1",
                "set(2, 1)", "go(0, 7) = 1", "grow(7, 4)", "fell(0) = 4", "grow(7, 4)",
                "fell(0) = NOT_POSSIBLE");
        CHECKS.script("promise 7: the most steps that it can take, 9",
                "set(2, 9)", "grow(0, 4)", "fell(0) = NOT_POSSIBLE", "set(0, 9)", "endDays(1)",
                "fell(0) = 4", "crew(0, 1) = 0");
        CHECKS.script("promise 7: NONE if the plot has no worth, and 1, the least worth",
                "fell(0) = NONE", "grow(0, 1)", "fell(0) = 1", "fell(0) = NONE", "crew(0, 1) = 5");
        CHECKS.script("promise 7: the greatest worth on the last plot",
                "set(0, 30)", "endDays(1)", "go(2, 63) = 18", "grow(63, 99)", "fell(2) = 99",
                "crew(2, 1) = 15", "crew(2, 2) = 99", "plot(63, 0) = 0", "plot(63, 6) = 1");
        CHECKS.script("promise 7: NOT_POSSIBLE comes ahead of NONE",
                "go(0, 6) = 2", "fell(0) = NOT_POSSIBLE", "go(0, 5)", "fell(0) = NOT_POSSIBLE",
                "set(2, 1)", "fell(0) = NONE");
        CHECKS.script("promise 7: UNKNOWN comes ahead of NOT_POSSIBLE",
                "set(2, 9)", "grow(0, 4)", "fell(3) = UNKNOWN", "fell(-1) = UNKNOWN");
        CHECKS.script("promise 7: its worth is saved, and 0 from then on",
                "grow(1, 44)", "fell(1) = 44", "plot(1, 0) = 0", "count(1) = 0", "count(7) = 44",
                "crew(1, 2) = 44", "crew(0, 2) = 0", "crew(2, 2) = 0");
        CHECKS.script("promise 7: crews on one plot do not hinder one another",
                "go(0, 1)", "grow(1, 5)", "fell(0) = 5", "fell(1) = NONE", "grow(1, 6)",
                "fell(1) = 6", "crew(0, 1) = 4", "crew(1, 1) = 5");
        CHECKS.script("promise 7: mud makes felling no dearer",
                "rain(9)", "grow(0, 5)", "fell(0) = 5", "crew(0, 1) = 5");
        CHECKS.script("promise 7: an act",
                "grow(0, 5)", "fell(0) = 5", "count(15) = 2", "undo() = 1", "plot(0, 0) = 5",
                "crew(0, 1) = 8", "crew(0, 2) = 0", "crew(0, 3) = 0", "plot(0, 6) = 0");
    }
}
