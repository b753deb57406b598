/** Each promise of the document: ordinary inputs, the edges that it names, and wrong inputs. */
public final class PromisesTest {
    private static final int UNKNOWN = -1;
    private static final int BAD_VALUE = -2;
    private static final int FULL = -3;
    private static final int NOT_POSSIBLE = -4;
    private static final int NONE = -5;
    private static final int LEAST = Integer.MIN_VALUE;
    private static final int GREATEST = Integer.MAX_VALUE;

    private static final Checks CHECKS = new Checks();

    public static void main(String[] arguments) {
        CHECKS.test("the constants", PromisesTest::constants);
        CHECKS.test("promise 1: a new object", PromisesTest::newObject);
        CHECKS.test("promise 1: two objects share nothing", PromisesTest::twoObjects);
        CHECKS.test("promise 2: grow", PromisesTest::grow);
        CHECKS.test("promise 3: rain", PromisesTest::rain);
        CHECKS.test("promise 4: endDays", PromisesTest::endDays);
        CHECKS.test("promise 4: endDays up to the day 9999", PromisesTest::lastDay);
        CHECKS.test("promise 5: set", PromisesTest::set);
        CHECKS.test("promise 6: go", PromisesTest::go);
        CHECKS.test("promise 7: fell", PromisesTest::fell);
        CHECKS.test("promise 8: hint", PromisesTest::hint);
        CHECKS.test("promise 9: takeBack", PromisesTest::takeBack);
        CHECKS.test("promise 10: storm", PromisesTest::storm);
        CHECKS.test("promise 10: what is regretted", PromisesTest::regret);
        CHECKS.test("promise 10: regret for fewer plots than were felled", PromisesTest::regretOfFew);
        CHECKS.test("promise 10: regret for the corners", PromisesTest::regretOfCorners);
        CHECKS.test("promise 11: type", PromisesTest::type);
        CHECKS.test("promise 12: clearText", PromisesTest::clearText);
        CHECKS.test("promise 13: perform", PromisesTest::perform);
        CHECKS.test("promise 13: faults", PromisesTest::faults);
        CHECKS.test("promise 13: the greatest numbers", PromisesTest::greatestNumbers);
        CHECKS.test("promise 13: all or nothing", PromisesTest::allOrNothing);
        CHECKS.test("promise 14: stopped", PromisesTest::stopped);
        CHECKS.test("promise 15: undo", PromisesTest::undo);
        CHECKS.test("promise 15: undo brings all of a state back", PromisesTest::undoOfAll);
        CHECKS.test("promise 15: undo of each act", PromisesTest::undoOfEach);
        CHECKS.test("promise 15: what is no act records nothing", PromisesTest::noActs);
        CHECKS.test("promise 16: keep", PromisesTest::keep);
        CHECKS.test("promise 17: restore", PromisesTest::restore);
        CHECKS.test("promise 18: plot", PromisesTest::plot);
        CHECKS.test("promise 19: crew", PromisesTest::crew);
        CHECKS.test("promise 20: row", PromisesTest::row);
        CHECKS.test("promise 21: way", PromisesTest::way);
        CHECKS.test("promise 22: reason", PromisesTest::reason);
        CHECKS.test("promise 23: best", PromisesTest::best);
        CHECKS.test("promise 24: openRow", PromisesTest::openRow);
        CHECKS.test("promise 25: ifTold", PromisesTest::ifTold);
        CHECKS.test("promise 26: count", PromisesTest::count);
        CHECKS.end();
    }

    private static void due(String what, long got, long want) {
        CHECKS.due(what, got, want);
    }

    /** Types a text in place of the one that was, and performs it. */
    private static int perform(StormFelling x, String text) {
        x.clearText();
        for (int at = 0; at < text.length(); at++) {
            x.type(text.charAt(at));
        }
        return x.perform();
    }

    private static void performed(StormFelling x, String text, int want) {
        due("perform of \"" + text + "\"", perform(x, text), want);
    }

    /** Tells the column 0 in the rows 0 to 7: one path is left. */
    private static void tellFirstColumn(StormFelling x) {
        for (int row = 0; row < 8; row++) {
            x.hint(row, 0);
        }
    }

    private static void constants() {
        due("UNKNOWN", StormFelling.UNKNOWN, UNKNOWN);
        due("BAD_VALUE", StormFelling.BAD_VALUE, BAD_VALUE);
        due("FULL", StormFelling.FULL, FULL);
        due("NOT_POSSIBLE", StormFelling.NOT_POSSIBLE, NOT_POSSIBLE);
        due("NONE", StormFelling.NONE, NONE);
    }

    private static void newObject() {
        StormFelling x = new StormFelling();
        int[] counts = {0, 0, 64, 0, 0, 11814, 0, 0, 0, 0, 0, 0, 8, 0, 3, 0, 0};
        for (int what = 0; what < counts.length; what++) {
            due("count(" + what + ")", x.count(what), counts[what]);
        }
        for (int plot = 0; plot < 64; plot++) {
            due("worth of " + plot, x.plot(plot, 0), 0);
            due("mud of " + plot, x.plot(plot, 1), 0);
            due("felled " + plot, x.plot(plot, 6), 0);
        }
        for (int crew = 0; crew < 3; crew++) {
            due("place of " + crew, x.crew(crew, 0), crew);
            due("steps of " + crew, x.crew(crew, 1), 8);
            due("saved by " + crew, x.crew(crew, 2), 0);
            due("felled by " + crew, x.crew(crew, 3), 0);
        }
        for (int row = 0; row < 8; row++) {
            due("hint of " + row, x.row(row, 0), NONE);
            due("least column of " + row, x.row(row, 1), 0);
            due("greatest column of " + row, x.row(row, 2), 7);
        }
        due("stopped(0)", x.stopped(0), NONE);
        due("best(0)", x.best(0), NONE);
        due("openRow()", x.openRow(), 0);
        due("undo()", x.undo(), NONE);
        due("restore()", x.restore(), NONE);
    }

    private static void twoObjects() {
        StormFelling x = new StormFelling();
        StormFelling y = new StormFelling();
        x.grow(5, 50);
        x.set(0, 20);
        x.hint(0, 0);
        x.keep();
        x.type('r');
        due("worth", y.plot(5, 0), 0);
        due("steps a day", y.count(12), 8);
        due("paths", y.count(5), 11814);
        due("restore()", y.restore(), NONE);
        due("length", y.count(16), 0);
        due("history", y.count(15), 0);
    }

    private static void grow() {
        StormFelling x = new StormFelling();
        due("grow(0, 99)", x.grow(0, 99), 0);
        due("grow(0, 98)", x.grow(0, 98), 99);
        due("grow(63, 1)", x.grow(63, 1), 0);
        due("grow(63, 0)", x.grow(63, 0), 1);
        due("worth of 0", x.plot(0, 0), 98);
        due("worth of 63", x.plot(63, 0), 0);
        due("history", x.count(15), 4);
        due("grow(0, 98)", x.grow(0, 98), NONE);
        due("grow(30, 0)", x.grow(30, 0), NONE);
        due("grow(-1, 5)", x.grow(-1, 5), UNKNOWN);
        due("grow(64, 5)", x.grow(64, 5), UNKNOWN);
        due("grow(64, 100)", x.grow(64, 100), UNKNOWN);
        due("grow(least, 5)", x.grow(LEAST, 5), UNKNOWN);
        due("grow(greatest, 5)", x.grow(GREATEST, 5), UNKNOWN);
        due("grow(0, -1)", x.grow(0, -1), BAD_VALUE);
        due("grow(0, 100)", x.grow(0, 100), BAD_VALUE);
        due("grow(0, greatest)", x.grow(0, GREATEST), BAD_VALUE);
        due("worth of 0", x.plot(0, 0), 98);
        due("undo()", x.undo(), 3);
        due("worth of 63", x.plot(63, 0), 1);
    }

    private static void rain() {
        StormFelling x = new StormFelling();
        due("rain(0)", x.rain(0), BAD_VALUE);
        due("rain(10)", x.rain(10), BAD_VALUE);
        due("rain(-1)", x.rain(-1), BAD_VALUE);
        due("rain(least)", x.rain(LEAST), BAD_VALUE);
        due("rain(greatest)", x.rain(GREATEST), BAD_VALUE);
        due("history", x.count(15), 0);
        due("rain(1)", x.rain(1), 0);
        due("rain(7)", x.rain(7), 0);
        due("mud of 0", x.plot(0, 1), 8);
        due("rain(1)", x.rain(1), 64);
        due("mud of 63", x.plot(63, 1), 9);
        due("rain(9)", x.rain(9), 64);
        due("mud of 31", x.plot(31, 1), 9);
        due("history", x.count(15), 4);
        due("rain(9) at once", new StormFelling().rain(9), 64);
    }

    private static void endDays() {
        StormFelling x = new StormFelling();
        due("endDays(0)", x.endDays(0), BAD_VALUE);
        due("endDays(100)", x.endDays(100), BAD_VALUE);
        due("endDays(-1)", x.endDays(-1), BAD_VALUE);
        due("endDays(greatest)", x.endDays(GREATEST), BAD_VALUE);
        due("history", x.count(15), 0);
        x.rain(5);
        x.go(0, 1);
        due("steps", x.crew(0, 1), 6);
        due("endDays(1)", x.endDays(1), 1);
        due("mud", x.plot(40, 1), 4);
        due("steps", x.crew(0, 1), 8);
        due("place", x.crew(0, 0), 1);
        due("endDays(3)", x.endDays(3), 4);
        due("mud", x.plot(40, 1), 1);
        due("endDays(99)", x.endDays(99), 103);
        due("mud", x.plot(40, 1), 0);
        due("day", x.count(0), 103);
        x.rain(2);
        due("mud", x.plot(40, 1), 2);
        x.set(0, 1);
        due("steps", x.crew(2, 1), 8);
        x.endDays(1);
        due("steps", x.crew(0, 1) + x.crew(1, 1) + x.crew(2, 1), 3);
    }

    private static void lastDay() {
        StormFelling x = new StormFelling();
        for (int n = 1; n <= 100; n++) {
            due("endDays(99)", x.endDays(99), 99 * n);
        }
        due("endDays(98)", x.endDays(98), 9998);
        x.rain(5);
        due("endDays(2)", x.endDays(2), FULL);
        due("endDays(100)", x.endDays(100), BAD_VALUE);
        due("mud", x.plot(0, 1), 5);
        due("day", x.count(0), 9998);
        due("endDays(1)", x.endDays(1), 9999);
        due("endDays(1)", x.endDays(1), FULL);
        due("endDays(99)", x.endDays(99), FULL);
        performed(x, "r1;.1", NOT_POSSIBLE);
        due("stopped(0)", x.stopped(0), 1);
        due("stopped(1)", x.stopped(1), FULL);
        due("mud", x.plot(0, 1), 4);
        due("undo()", x.undo(), 3);
        due("day", x.count(0), 9998);
    }

    private static void set() {
        StormFelling x = new StormFelling();
        due("set(-1, 1)", x.set(-1, 1), UNKNOWN);
        due("set(3, 1)", x.set(3, 1), UNKNOWN);
        due("set(3, 99)", x.set(3, 99), UNKNOWN);
        due("set(greatest, 1)", x.set(GREATEST, 1), UNKNOWN);
        due("set(0, 0)", x.set(0, 0), BAD_VALUE);
        due("set(0, 31)", x.set(0, 31), BAD_VALUE);
        due("set(1, -1)", x.set(1, -1), BAD_VALUE);
        due("set(1, 3)", x.set(1, 3), BAD_VALUE);
        due("set(2, 0)", x.set(2, 0), BAD_VALUE);
        due("set(2, 10)", x.set(2, 10), BAD_VALUE);
        due("set(0, 8)", x.set(0, 8), NONE);
        due("set(1, 0)", x.set(1, 0), NONE);
        due("set(2, 3)", x.set(2, 3), NONE);
        due("history", x.count(15), 0);
        due("set(0, 30)", x.set(0, 30), 8);
        due("steps", x.crew(0, 1), 8);
        due("set(0, 1)", x.set(0, 1), 30);
        due("steps", x.crew(0, 1), 8);
        due("set(1, 2)", x.set(1, 2), 0);
        due("set(1, 0)", x.set(1, 0), 2);
        due("set(2, 9)", x.set(2, 9), 3);
        due("set(2, 1)", x.set(2, 1), 9);
        due("count(12)", x.count(12), 1);
        due("count(13)", x.count(13), 0);
        due("count(14)", x.count(14), 1);
        due("history", x.count(15), 4);
    }

    private static void go() {
        StormFelling x = new StormFelling();
        due("go(-1, 0)", x.go(-1, 0), UNKNOWN);
        due("go(3, 0)", x.go(3, 0), UNKNOWN);
        due("go(0, -1)", x.go(0, -1), UNKNOWN);
        due("go(0, 64)", x.go(0, 64), UNKNOWN);
        due("go(greatest, least)", x.go(GREATEST, LEAST), UNKNOWN);
        due("go(0, 0)", x.go(0, 0), NONE);
        due("go(0, 37)", x.go(0, 37), NOT_POSSIBLE);
        due("history", x.count(15), 0);
        due("go(0, 36)", x.go(0, 36), 0);
        due("place", x.crew(0, 0), 36);
        due("steps", x.crew(0, 1), 0);
        due("go(0, 36)", x.go(0, 36), NONE);
        due("go(0, 37)", x.go(0, 37), NOT_POSSIBLE);
        due("go(1, 36)", x.go(1, 36), 1);
        due("go(2, 7)", x.go(2, 7), 3);
        due("undo()", x.undo(), 2);
        due("place", x.crew(2, 0), 2);
        due("steps", x.crew(2, 1), 8);
        x.rain(6);
        due("go(2, 4)", x.go(2, 4), 2);
        due("go(2, 12)", x.go(2, 12), NOT_POSSIBLE);
        due("place", x.crew(2, 0), 4);
    }

    private static void fell() {
        StormFelling x = new StormFelling();
        due("fell(-1)", x.fell(-1), UNKNOWN);
        due("fell(3)", x.fell(3), UNKNOWN);
        due("fell(greatest)", x.fell(GREATEST), UNKNOWN);
        due("fell(0)", x.fell(0), NONE);
        due("history", x.count(15), 0);
        x.grow(0, 30);
        x.grow(1, 20);
        due("fell(0)", x.fell(0), 30);
        due("worth", x.plot(0, 0), 0);
        due("steps", x.crew(0, 1), 5);
        due("saved", x.crew(0, 2), 30);
        due("felled", x.crew(0, 3), 1);
        due("fell(0)", x.fell(0), NONE);
        due("steps", x.crew(0, 1), 5);
        x.grow(0, 7);
        due("fell(0)", x.fell(0), 7);
        due("saved", x.crew(0, 2), 37);
        due("felled", x.crew(0, 3), 2);
        due("felled since the storm", x.count(11), 1);
        due("fell(0)", x.fell(0), NOT_POSSIBLE);
        due("history", x.count(15), 4);
        due("worth of 1", x.plot(1, 0), 20);
        x.set(2, 2);
        x.grow(0, 4);
        due("fell(0) with just enough steps", x.fell(0), 4);
        due("steps", x.crew(0, 1), 0);
        due("go(0, 1)", x.go(1, 0), 7);
        due("fell(1)", x.fell(1), NONE);
        due("count(7)", x.count(7), 41);
    }

    private static void hint() {
        StormFelling x = new StormFelling();
        due("hint(-1, 0)", x.hint(-1, 0), UNKNOWN);
        due("hint(8, 0)", x.hint(8, 0), UNKNOWN);
        due("hint(8, 8)", x.hint(8, 8), UNKNOWN);
        due("hint(0, -1)", x.hint(0, -1), BAD_VALUE);
        due("hint(0, 8)", x.hint(0, 8), BAD_VALUE);
        due("hint(least, greatest)", x.hint(LEAST, GREATEST), UNKNOWN);
        due("hint(7, greatest)", x.hint(7, GREATEST), BAD_VALUE);
        due("history", x.count(15), 0);
        due("hint(7, 7)", x.hint(7, 7), 750);
        due("hint(0, 7)", x.hint(0, 7), 127);
        due("hint(0, 7)", x.hint(0, 7), NOT_POSSIBLE);
        due("hint(0, 6)", x.hint(0, 6), NOT_POSSIBLE);
        due("hint(0, 8)", x.hint(0, 8), BAD_VALUE);
        due("hint(6, 5)", x.hint(6, 5), NOT_POSSIBLE);
        due("hint(4, 3)", x.hint(4, 3), NOT_POSSIBLE);
        due("row(4, 0)", x.row(4, 0), NONE);
        due("hint(4, 4)", x.hint(4, 4), 4);
        due("hint(3, 5)", x.hint(3, 5), 3);
        due("hint(2, 6)", x.hint(2, 6), 2);
        due("hint(1, 7)", x.hint(1, 7), 1);
        due("hint(5, 5)", x.hint(5, 5), 1);
        due("hint(6, 7)", x.hint(6, 7), NOT_POSSIBLE);
        due("row(6, 1)", x.row(6, 1), 6);
        due("row(6, 2)", x.row(6, 2), 6);
        due("history", x.count(15), 4);
    }

    private static void takeBack() {
        StormFelling x = new StormFelling();
        due("takeBack(-1)", x.takeBack(-1), UNKNOWN);
        due("takeBack(8)", x.takeBack(8), UNKNOWN);
        due("takeBack(greatest)", x.takeBack(GREATEST), UNKNOWN);
        due("takeBack(0)", x.takeBack(0), NONE);
        due("history", x.count(15), 0);
        x.hint(0, 0);
        x.hint(7, 7);
        due("paths", x.count(5), 1);
        due("takeBack(0)", x.takeBack(0), 750);
        due("takeBack(0)", x.takeBack(0), NONE);
        due("row(0, 0)", x.row(0, 0), NONE);
        due("takeBack(7)", x.takeBack(7), 11814);
        due("hints", x.count(6), 0);
        due("undo()", x.undo(), 3);
        due("row(7, 0)", x.row(7, 0), 7);
        due("paths", x.count(5), 750);
    }

    private static void storm() {
        StormFelling x = new StormFelling();
        due("storm()", x.storm(), NOT_POSSIBLE);
        for (int row = 0; row < 7; row++) {
            x.hint(row, 0);
        }
        due("paths", x.count(5), 2);
        due("storm()", x.storm(), NOT_POSSIBLE);
        due("hint(7, 1)", x.hint(7, 1), 1);
        x.grow(0, 10);
        x.grow(48, 20);
        x.grow(56, 30);
        x.grow(57, 40);
        x.grow(1, 50);
        due("storm()", x.storm(), 70);
        due("worth of 0", x.plot(0, 0), 0);
        due("worth of 48", x.plot(48, 0), 0);
        due("worth of 56", x.plot(56, 0), 30);
        due("worth of 57", x.plot(57, 0), 0);
        due("worth of 1", x.plot(1, 0), 50);
        due("lost", x.count(8), 70);
        due("storms", x.count(10), 1);
        due("hints", x.count(6), 0);
        due("paths", x.count(5), 11814);
        due("day", x.count(0), 0);
        due("history", x.count(15), 4);
        due("undo()", x.undo(), 3);
        due("worth of 0", x.plot(0, 0), 10);
        due("hints", x.count(6), 8);
        due("lost", x.count(8), 0);
        due("storms", x.count(10), 0);
        x.set(1, 2);
        due("storm() with a reach of 2", x.storm(), 150);
        due("storm()", x.storm(), NOT_POSSIBLE);
        tellFirstColumn(x);
        due("storm() in an empty wood", x.storm(), 0);
        due("lost", x.count(8), 150);
        due("storms", x.count(10), 2);
    }

    private static void regret() {
        StormFelling x = new StormFelling();
        x.set(2, 1);
        x.grow(0, 99);
        x.grow(1, 5);
        x.grow(2, 6);
        x.fell(0);
        x.fell(1);
        x.fell(2);
        x.grow(2, 3);
        x.fell(2);
        due("felled", x.count(11), 3);
        tellFirstColumn(x);
        x.grow(8, 20);
        x.grow(16, 50);
        x.grow(24, 40);
        x.grow(32, 50);
        x.grow(3, 90);
        due("storm()", x.storm(), 160);
        due("regretted: two plots were felled in vain", x.count(9), 100);
        due("felled since the storm", x.count(11), 0);
        due("plot(2, 6)", x.plot(2, 6), 0);
        due("saved", x.count(7), 113);
        tellFirstColumn(x);
        x.grow(8, 20);
        due("storm()", x.storm(), 20);
        due("nothing more is regretted", x.count(9), 100);
        due("undo()", x.undo(), 3);
        x.undo();
        x.grow(8, 30);
        x.grow(1, 1);
        x.fell(1);
        due("storm()", x.storm(), 30);
        due("regretted", x.count(9), 130);
        due("lost", x.count(8), 190);
    }

    private static void regretOfFew() {
        StormFelling x = new StormFelling();
        x.set(2, 1);
        x.set(1, 1);
        x.grow(1, 5);
        x.grow(2, 6);
        x.fell(1);
        x.fell(2);
        x.go(2, 3);
        x.grow(3, 7);
        x.fell(2);
        x.grow(2, 8);
        tellFirstColumn(x);
        x.grow(57, 99);
        x.grow(56, 1);
        x.grow(58, 50);
        x.grow(1, 4);
        due("felled", x.count(11), 3);
        due("storm()", x.storm(), 104);
        due("regretted: 2 and 3 were felled in vain, not 1", x.count(9), 103);
        x.grow(2, 9);
        x.endDays(1);
        x.go(2, 2);
        x.fell(2);
        x.fell(2);
        x.go(2, 11);
        x.grow(11, 9);
        x.fell(2);
        x.grow(56, 11);
        tellFirstColumn(x);
        due("storm()", x.storm(), 11);
        due("regretted: one loss for two plots", x.count(9), 114);
    }

    private static void regretOfCorners() {
        StormFelling x = new StormFelling();
        x.set(0, 30);
        x.endDays(1);
        for (int row = 0; row < 8; row++) {
            x.hint(row, 3);
        }
        x.grow(0, 1);
        x.fell(0);
        x.go(2, 63);
        x.grow(63, 1);
        x.fell(2);
        x.grow(3, 1);
        x.grow(59, 99);
        x.grow(51, 1);
        due("storm()", x.storm(), 101);
        due("regretted: 0 and 63 were felled in vain", x.count(9), 100);
    }

    private static void type() {
        StormFelling x = new StormFelling();
        due("type('t')", x.type('t'), 1);
        due("type(0)", x.type((char) 0), 2);
        due("type(65535)", x.type((char) 65535), 3);
        for (int n = 4; n <= 60; n++) {
            due("type('r')", x.type('r'), n);
        }
        due("the 61st", x.type('r'), FULL);
        due("the 62nd", x.type('r'), FULL);
        due("length", x.count(16), 60);
        due("history", x.count(15), 0);
        due("perform()", x.perform(), -101);
    }

    private static void clearText() {
        StormFelling x = new StormFelling();
        due("clearText()", x.clearText(), 0);
        x.type('r');
        x.type('1');
        due("clearText()", x.clearText(), 2);
        due("length", x.count(16), 0);
        due("clearText()", x.clearText(), 0);
        due("perform()", x.perform(), -100);
        due("history", x.count(15), 0);
        for (int n = 0; n < 60; n++) {
            x.type('.');
        }
        due("clearText()", x.clearText(), 60);
        due("type('f')", x.type('f'), 1);
        due("perform()", x.perform(), -101);
    }

    private static void perform() {
        StormFelling x = new StormFelling();
        performed(x, "t9=45;r4;h0:3;g1>9;f1;.2", 6);
        due("worth", x.plot(9, 0), 0);
        due("saved", x.crew(1, 2), 45);
        due("place", x.crew(1, 0), 9);
        due("mud", x.plot(0, 1), 2);
        due("hint", x.row(0, 0), 3);
        due("day", x.count(0), 2);
        due("history", x.count(15), 1);
        due("length", x.count(16), 24);
        due("stopped(0)", x.stopped(0), NONE);
        due("undo()", x.undo(), 0);
        due("saved", x.crew(1, 2), 0);
        due("place", x.crew(1, 0), 1);
        due("hint", x.row(0, 0), NONE);
        due("length", x.count(16), 24);
        due("perform() again", x.perform(), 6);
        due("perform() again", x.perform(), NOT_POSSIBLE);
        due("stopped(0)", x.stopped(0), 2);
        performed(x, "g0>0;f0;t5=0", 3);
        due("what does nothing is an act, too", x.count(15), 2);
        performed(x, "f0;f0;f0;f0;f0;f0;f0;f0;f0;f0;f0;f0;f0;f0;f0;f0;f0;f0;f0;r1", 20);
        due("length", x.count(16), 59);
        due("mud", x.plot(0, 1), 3);
        performed(x, "t10=11;f0;f0;f0;f0;f0;f0;f0;f0;f0;f0;f0;f0;f0;f0;f0;f0;f0;.1", 19);
        due("length", x.count(16), 60);
        due("mud", x.plot(0, 1), 2);
        performed(x, "f0;f0;f0;f0;f0;f0;f0;f0;f0;f0;f0;f0;f0;f0;f0;f0;f0;f0;f0;f0;", -160);
    }

    private static void fault(String text, int fault) {
        StormFelling x = new StormFelling();
        performed(x, text, -100 - fault);
        due("history", x.count(15), 0);
        due("paths", x.count(5), 11814);
        due("worth of all", x.count(1), 0);
        due("stopped(0)", x.stopped(0), NONE);
    }

    private static void faults() {
        fault("", 0);
        fault(" ", 0);
        fault(";", 0);
        fault("T1=1", 0);
        fault("t", 1);
        fault("t=", 1);
        fault("t-1=1", 1);
        fault("t0", 2);
        fault("t00=1", 2);
        fault("t64=1", 2);
        fault("t70=1", 2);
        fault("t63", 3);
        fault("t630=1", 3);
        fault("t63:1", 3);
        fault("t63=", 4);
        fault("t1=01", 4);
        fault("t1=100", 5);
        fault("t1=99;", 6);
        fault("t1=99,", 5);
        fault("r", 1);
        fault("r0", 1);
        fault("r10", 2);
        fault("r1;;", 3);
        fault("r9;r", 4);
        fault("h", 1);
        fault("h8:0", 1);
        fault("h1", 2);
        fault("h10:0", 2);
        fault("h1=0", 2);
        fault("h7:", 3);
        fault("h7:8", 3);
        fault("h7:70", 4);
        fault("g", 1);
        fault("g3>0", 1);
        fault("g2", 2);
        fault("g2=0", 2);
        fault("g2>", 3);
        fault("g2>64", 4);
        fault("g2>630", 5);
        fault("g2>x", 3);
        fault("f", 1);
        fault("f3", 1);
        fault("f2f2", 2);
        fault("f00", 2);
        fault(".", 1);
        fault(".0", 1);
        fault(".100", 3);
        fault(".99.", 3);
        fault("r1 ", 2);
        fault("t5=5;h0:0;u", 10);
        fault("r" + (char) 0x661, 1);
        fault("r" + (char) 0x131, 1);
        fault("t1" + (char) 0, 2);
        fault("/", 0);
        fault("r/", 1);
        fault("r:", 1);
    }

    private static void greatestNumbers() {
        StormFelling x = new StormFelling();
        performed(x, "t63=99;t0=10;t59=0;t60=9;.99;r9;h0:0;h7:7;g0>0;f0", 10);
        due("worth of 63", x.plot(63, 0), 99);
        due("worth of 60", x.plot(60, 0), 9);
        due("day", x.count(0), 99);
        due("mud", x.plot(0, 1), 9);
        due("paths", x.count(5), 1);
        due("saved", x.crew(0, 2), 10);
        x = new StormFelling();
        x.set(0, 30);
        performed(x, ".1;g2>63;g1>10;g0>0", 4);
        due("place of 2", x.crew(2, 0), 63);
        due("steps of 2", x.crew(2, 1), 18);
        due("place of 1", x.crew(1, 0), 10);
        performed(x, "r1;h7:0;.10;f2", 4);
        due("day", x.count(0), 11);
        due("hint", x.row(7, 0), 0);
    }

    private static void allOrNothing() {
        StormFelling x = new StormFelling();
        x.grow(0, 10);
        performed(x, "f0;t5=7;r9;.3;h0:0;g1>3;h0:0;t6=1", NOT_POSSIBLE);
        due("stopped(0)", x.stopped(0), 6);
        due("stopped(1)", x.stopped(1), NOT_POSSIBLE);
        due("worth of 0", x.plot(0, 0), 10);
        due("worth of 5", x.plot(5, 0), 0);
        due("mud", x.plot(0, 1), 0);
        due("day", x.count(0), 0);
        due("hint", x.row(0, 0), NONE);
        due("place", x.crew(1, 0), 1);
        due("steps", x.crew(0, 1), 8);
        due("saved", x.count(7), 0);
        due("felled", x.plot(0, 6), 0);
        due("history", x.count(15), 1);
        performed(x, "t5=7;g0>63", NOT_POSSIBLE);
        due("stopped(0)", x.stopped(0), 1);
        due("worth of 5", x.plot(5, 0), 0);
        performed(x, "f0;f0;g0>1;g0>0;g0>1;f0", NOT_POSSIBLE);
        due("the second fell is NONE, the third one has too few steps", x.stopped(0), 5);
        performed(x, "h0:0;h1:2", NOT_POSSIBLE);
        due("stopped(0)", x.stopped(0), 1);
        due("paths", x.count(5), 11814);
        due("undo()", x.undo(), 0);
    }

    private static void stopped() {
        StormFelling x = new StormFelling();
        due("stopped(0)", x.stopped(0), NONE);
        due("stopped(1)", x.stopped(1), NONE);
        due("stopped(2)", x.stopped(2), BAD_VALUE);
        due("stopped(-1)", x.stopped(-1), BAD_VALUE);
        due("stopped(greatest)", x.stopped(GREATEST), BAD_VALUE);
        performed(x, "g0>63", NOT_POSSIBLE);
        due("stopped(0)", x.stopped(0), 0);
        due("stopped(1)", x.stopped(1), NOT_POSSIBLE);
        due("stopped(2)", x.stopped(2), BAD_VALUE);
        performed(x, "r1;r1", 2);
        due("stopped(0)", x.stopped(0), 0);
        performed(x, "r1;g0>63;g0>62", NOT_POSSIBLE);
        due("stopped(0)", x.stopped(0), 1);
        performed(x, "r1;r", -104);
        due("stopped(0)", x.stopped(0), 1);
        x.undo();
        due("stopped(0)", x.stopped(0), 1);
        due("stopped(1)", x.stopped(1), NOT_POSSIBLE);
    }

    private static void undo() {
        StormFelling x = new StormFelling();
        due("undo()", x.undo(), NONE);
        for (int worth = 1; worth <= 6; worth++) {
            x.grow(0, worth);
        }
        due("history", x.count(15), 4);
        due("undo()", x.undo(), 3);
        due("worth", x.plot(0, 0), 5);
        due("undo()", x.undo(), 2);
        due("undo()", x.undo(), 1);
        due("worth", x.plot(0, 0), 3);
        due("grow(0, 50)", x.grow(0, 50), 3);
        due("history", x.count(15), 2);
        due("undo()", x.undo(), 1);
        due("undo()", x.undo(), 0);
        due("worth", x.plot(0, 0), 2);
        due("undo()", x.undo(), NONE);
        due("worth", x.plot(0, 0), 2);
        for (int worth = 11; worth <= 14; worth++) {
            x.grow(0, worth);
        }
        due("history", x.count(15), 4);
        x.grow(0, 15);
        due("the fifth drops the oldest", x.count(15), 4);
        x.undo();
        x.undo();
        x.undo();
        due("undo()", x.undo(), 0);
        due("worth", x.plot(0, 0), 11);
    }

    private static void undoOfAll() {
        StormFelling x = new StormFelling();
        x.set(0, 30);
        x.set(1, 1);
        x.set(2, 2);
        x.grow(1, 9);
        x.fell(1);
        x.grow(9, 8);
        x.grow(12, 7);
        x.grow(3, 6);
        x.hint(0, 2);
        for (int row = 1; row < 7; row++) {
            x.hint(row, 2);
        }
        x.grow(4, 5);
        x.hint(7, 1);
        x.storm();
        x.hint(4, 4);
        x.rain(7);
        x.endDays(2);
        x.go(0, 9);
        x.keep();
        int[] counts = new int[17];
        for (int what = 0; what < 17; what++) {
            counts[what] = x.count(what);
        }
        due("regretted", x.count(9), 0);
        performed(x, "t9=3;f0;g2>20;r3;.1;h0:1;t63=4;g1>7", 8);
        x.undo();
        for (int what = 0; what < 15; what++) {
            due("count(" + what + ")", x.count(what), counts[what]);
        }
        due("place of 0", x.crew(0, 0), 9);
        due("steps of 0", x.crew(0, 1), 26);
        due("felled by 0", x.crew(0, 3), 0);
        due("felled by 1", x.crew(1, 3), 1);
        due("saved by 1", x.crew(1, 2), 9);
        due("place of 2", x.crew(2, 0), 2);
        due("worth of 9", x.plot(9, 0), 0);
        due("worth of 12", x.plot(12, 0), 7);
        due("mud", x.plot(12, 1), 5);
        due("row(4, 0)", x.row(4, 0), 4);
        x.set(0, 5);
        due("set(1, 0)", x.set(1, 0), 1);
        x.set(2, 9);
        x.undo();
        x.undo();
        x.undo();
        due("count(12)", x.count(12), 30);
        due("count(13)", x.count(13), 1);
        due("count(14)", x.count(14), 2);
    }

    /** After an act the one before it still stands when the latest is undone. */
    private static void undoOfEach() {
        StormFelling x = new StormFelling();
        x.rain(2);
        x.grow(0, 50);
        x.undo();
        due("rain, not grow", x.plot(0, 1), 2);
        due("rain, not grow", x.plot(0, 0), 0);
        x.grow(0, 50);
        x.rain(2);
        x.undo();
        due("grow, not rain", x.plot(0, 0), 50);
        due("grow, not rain", x.plot(0, 1), 2);
        x.grow(0, 51);
        x.endDays(2);
        x.undo();
        due("grow, not endDays", x.plot(0, 0), 51);
        due("grow, not endDays", x.plot(0, 1), 2);
        due("grow, not endDays", x.count(0), 0);
        x.grow(0, 52);
        x.set(1, 2);
        x.undo();
        due("grow, not set", x.plot(0, 0), 52);
        due("grow, not set", x.count(13), 0);
        x.grow(0, 53);
        x.go(1, 4);
        x.undo();
        due("grow, not go", x.plot(0, 0), 53);
        due("grow, not go", x.crew(1, 0), 1);
        due("grow, not go", x.crew(1, 1), 8);
        x.grow(0, 54);
        x.fell(0);
        x.undo();
        due("grow, not fell", x.plot(0, 0), 54);
        due("grow, not fell", x.count(7), 0);
        due("grow, not fell", x.crew(0, 3), 0);
        due("grow, not fell", x.count(11), 0);
        x.grow(0, 55);
        x.hint(0, 0);
        x.undo();
        due("grow, not hint", x.plot(0, 0), 55);
        due("grow, not hint", x.count(5), 11814);
        x.hint(0, 0);
        x.grow(0, 56);
        x.takeBack(0);
        x.undo();
        due("grow, not takeBack", x.plot(0, 0), 56);
        due("grow, not takeBack", x.count(5), 750);
        x.hint(7, 7);
        x.grow(8, 3);
        x.go(1, 8);
        x.fell(1);
        x.grow(8, 4);
        x.storm();
        due("regretted", x.count(9), 56);
        x.undo();
        due("grow, not storm", x.plot(8, 0), 4);
        due("grow, not storm", x.count(9), 0);
        due("grow, not storm", x.count(8), 0);
        due("grow, not storm", x.count(10), 0);
        due("grow, not storm", x.count(11), 1);
        x.keep();
        x.grow(0, 57);
        x.restore();
        x.undo();
        due("grow, not restore", x.plot(0, 0), 57);
        x.grow(0, 58);
        performed(x, "r9", 1);
        x.undo();
        due("grow, not perform", x.plot(0, 0), 58);
        due("grow, not perform", x.plot(0, 1), 2);
    }

    private static void noActs() {
        StormFelling x = new StormFelling();
        x.grow(0, 5);
        x.keep();
        x.type('r');
        x.type('0');
        x.perform();
        x.clearText();
        x.best(0);
        x.ifTold(0, 0);
        x.way(0, 63);
        x.reason(0, 0);
        due("history", x.count(15), 1);
        due("best(0)", x.best(0), 0);
        due("paths", x.count(5), 11814);
        due("undo()", x.undo(), 0);
        due("history", x.count(15), 0);
    }

    private static void keep() {
        StormFelling x = new StormFelling();
        due("keep()", x.keep(), 0);
        x.grow(0, 5);
        x.endDays(7);
        due("keep()", x.keep(), 7);
        due("history", x.count(15), 2);
        x.grow(0, 6);
        x.undo();
        x.undo();
        x.undo();
        due("day", x.count(0), 0);
        due("the snapshot stays as it was", x.restore(), 7);
        due("worth", x.plot(0, 0), 5);
    }

    private static void restore() {
        StormFelling x = new StormFelling();
        due("restore()", x.restore(), NONE);
        due("history", x.count(15), 0);
        x.grow(0, 5);
        x.rain(5);
        x.type('r');
        x.keep();
        x.type('4');
        x.perform();
        x.endDays(3);
        due("restore()", x.restore(), 0);
        due("mud", x.plot(0, 1), 5);
        due("length stays", x.count(16), 2);
        due("history", x.count(15), 4);
        due("restore()", x.restore(), 0);
        x.grow(0, 6);
        due("the snapshot stays", x.restore(), 0);
        due("worth", x.plot(0, 0), 5);
        due("undo()", x.undo(), 3);
        due("worth", x.plot(0, 0), 6);
        x.undo();
        x.undo();
        x.undo();
        due("day", x.count(0), 3);
        due("mud", x.plot(0, 1), 6);
    }

    private static void plot() {
        StormFelling x = new StormFelling();
        due("plot(-1, 0)", x.plot(-1, 0), UNKNOWN);
        due("plot(64, 0)", x.plot(64, 0), UNKNOWN);
        due("plot(64, 7)", x.plot(64, 7), UNKNOWN);
        due("plot(greatest, 0)", x.plot(GREATEST, 0), UNKNOWN);
        due("plot(0, -1)", x.plot(0, -1), BAD_VALUE);
        due("plot(63, 7)", x.plot(63, 7), BAD_VALUE);
        x.grow(7, 99);
        x.grow(6, 10);
        x.hint(1, 6);
        for (int row = 2; row < 8; row++) {
            x.hint(row, 6);
        }
        due("paths", x.count(5), 3);
        for (int column = 0; column < 8; column++) {
            int hit = column >= 5 ? 1 : 0;
            due("plot(" + column + ", 2)", x.plot(column, 2), hit);
            due("plot(" + column + ", 3)", x.plot(column, 3), hit);
            due("plot(" + column + ", 4)", x.plot(column, 4), 0);
        }
        due("plot(7, 5)", x.plot(7, 5), 33);
        due("plot(6, 5)", x.plot(6, 5), 3);
        due("plot(14, 4)", x.plot(14, 4), 1);
        due("plot(13, 3)", x.plot(13, 3), 0);
        x.set(1, 1);
        due("plot(3, 2)", x.plot(3, 2), 0);
        due("plot(4, 2)", x.plot(4, 2), 1);
        due("plot(5, 2)", x.plot(5, 2), 2);
        due("plot(6, 2)", x.plot(6, 2), 3);
        due("plot(6, 4)", x.plot(6, 4), 1);
        due("plot(7, 2)", x.plot(7, 2), 2);
        due("plot(8, 2): a row ends at its edge", x.plot(8, 2), 0);
        due("plot(7, 5)", x.plot(7, 5), 66);
        due("plot(6, 5)", x.plot(6, 5), 10);
        x.set(1, 2);
        due("plot(3, 2)", x.plot(3, 2), 1);
        due("plot(2, 3)", x.plot(2, 3), 0);
        due("plot(5, 4)", x.plot(5, 4), 1);
        due("plot(7, 4)", x.plot(7, 4), 1);
        due("plot(12, 3)", x.plot(12, 3), 1);
        due("plot(16, 3)", x.plot(16, 3), 0);
        x.grow(2, 4);
        due("plot(2, 6)", x.plot(2, 6), 0);
        x.fell(2);
        due("plot(2, 6)", x.plot(2, 6), 1);
        x.grow(2, 4);
        due("plot(2, 6)", x.plot(2, 6), 1);
        due("plot(2, 0)", x.plot(2, 0), 4);
        x.hint(0, 6);
        x.storm();
        due("plot(2, 6)", x.plot(2, 6), 0);
        due("plot(0, 1)", x.plot(0, 1), 0);
    }

    private static void crew() {
        StormFelling x = new StormFelling();
        due("crew(-1, 0)", x.crew(-1, 0), UNKNOWN);
        due("crew(3, 0)", x.crew(3, 0), UNKNOWN);
        due("crew(3, 4)", x.crew(3, 4), UNKNOWN);
        due("crew(0, -1)", x.crew(0, -1), BAD_VALUE);
        due("crew(0, 4)", x.crew(0, 4), BAD_VALUE);
        x.set(2, 1);
        x.grow(2, 11);
        x.fell(2);
        x.go(2, 10);
        x.grow(10, 22);
        x.fell(2);
        due("crew(2, 0)", x.crew(2, 0), 10);
        due("crew(2, 1)", x.crew(2, 1), 5);
        due("crew(2, 2)", x.crew(2, 2), 33);
        due("crew(2, 3)", x.crew(2, 3), 2);
        due("crew(1, 2)", x.crew(1, 2), 0);
        due("crew(1, 3)", x.crew(1, 3), 0);
        tellFirstColumn(x);
        x.storm();
        x.endDays(1);
        due("what is told so far stays behind a storm", x.crew(2, 2), 33);
        due("crew(2, 3)", x.crew(2, 3), 2);
    }

    private static void row() {
        StormFelling x = new StormFelling();
        due("row(-1, 0)", x.row(-1, 0), UNKNOWN);
        due("row(8, 0)", x.row(8, 0), UNKNOWN);
        due("row(8, 3)", x.row(8, 3), UNKNOWN);
        due("row(0, -1)", x.row(0, -1), BAD_VALUE);
        due("row(7, 3)", x.row(7, 3), BAD_VALUE);
        x.hint(2, 4);
        due("row(2, 0)", x.row(2, 0), 4);
        due("row(2, 1)", x.row(2, 1), 4);
        due("row(2, 2)", x.row(2, 2), 4);
        due("row(3, 0)", x.row(3, 0), NONE);
        due("row(3, 1)", x.row(3, 1), 3);
        due("row(3, 2)", x.row(3, 2), 5);
        due("row(0, 1)", x.row(0, 1), 2);
        due("row(0, 2)", x.row(0, 2), 6);
        due("row(6, 1)", x.row(6, 1), 0);
        due("row(6, 2)", x.row(6, 2), 7);
        x.hint(7, 7);
        due("row(6, 1)", x.row(6, 1), 6);
        due("row(4, 1)", x.row(4, 1), 4);
        due("row(3, 1)", x.row(3, 1), 3);
        x.hint(3, 3);
        due("row(4, 1)", x.row(4, 1), 4);
        due("row(4, 2)", x.row(4, 2), 4);
        due("row(1, 1)", x.row(1, 1), 3);
        due("row(7, 1)", x.row(7, 1), 7);
        due("row(7, 2)", x.row(7, 2), 7);
        x.takeBack(7);
        due("hint(6, 0)", x.hint(6, 0), 18);
        due("row(6, 1)", x.row(6, 1), 0);
        due("row(6, 2)", x.row(6, 2), 0);
        due("row(7, 2)", x.row(7, 2), 1);
    }

    private static void way() {
        StormFelling x = new StormFelling();
        due("way(-1, 0)", x.way(-1, 0), UNKNOWN);
        due("way(3, 0)", x.way(3, 0), UNKNOWN);
        due("way(0, -1)", x.way(0, -1), UNKNOWN);
        due("way(0, 64)", x.way(0, 64), UNKNOWN);
        due("way(0, greatest)", x.way(0, GREATEST), UNKNOWN);
        due("way(0, 0)", x.way(0, 0), 0);
        due("way(0, 7)", x.way(0, 7), 7);
        due("way(0, 56)", x.way(0, 56), 7);
        due("way(0, 63)", x.way(0, 63), 14);
        due("way(2, 8)", x.way(2, 8), 3);
        due("way(1, 8)", x.way(1, 8), 2);
        x.rain(2);
        due("way with a mud of 2", x.way(0, 63), 14);
        x.rain(1);
        due("way with a mud of 3", x.way(0, 63), 28);
        due("way(0, 0)", x.way(0, 0), 0);
        x.rain(2);
        due("way with a mud of 5", x.way(0, 1), 2);
        x.rain(1);
        due("way with a mud of 6", x.way(0, 1), 3);
        x.rain(2);
        due("way with a mud of 8", x.way(0, 1), 3);
        x.rain(1);
        due("way with a mud of 9", x.way(0, 1), 4);
        due("way(0, 63)", x.way(0, 63), 56);
        x.endDays(9);
        x.go(2, 9);
        due("way from 9", x.way(2, 63), 12);
        due("way from 9 up", x.way(2, 0), 2);
    }

    private static void reason() {
        StormFelling x = new StormFelling();
        due("reason(-1, 0)", x.reason(-1, 0), UNKNOWN);
        due("reason(3, 0)", x.reason(3, 0), UNKNOWN);
        due("reason(0, -1)", x.reason(0, -1), UNKNOWN);
        due("reason(0, 64)", x.reason(0, 64), UNKNOWN);
        due("reason(0, 0)", x.reason(0, 0), 1);
        due("reason(0, 63)", x.reason(0, 63), 1);
        for (int plot = 0; plot < 8; plot++) {
            x.grow(plot, 1);
        }
        x.grow(23, 1);
        x.grow(15, 1);
        due("reason(0, 0)", x.reason(0, 0), 0);
        due("reason(0, 5)", x.reason(0, 5), 0);
        due("reason(0, 6)", x.reason(0, 6), 3);
        due("reason(0, 15)", x.reason(0, 15), 3);
        due("reason(0, 23)", x.reason(0, 23), 2);
        x.rain(3);
        due("reason(0, 2)", x.reason(0, 2), 0);
        due("reason(0, 3)", x.reason(0, 3), 3);
        due("reason(0, 4)", x.reason(0, 4), 3);
        due("reason(0, 5)", x.reason(0, 5), 2);
        x.set(2, 9);
        due("reason(0, 0)", x.reason(0, 0), 3);
        x.set(2, 8);
        due("reason(0, 0)", x.reason(0, 0), 0);
        due("reason(0, 1)", x.reason(0, 1), 3);
        due("place stays", x.crew(0, 0), 0);
        x.grow(63, 1);
        due("reason(2, 63)", x.reason(2, 63), 2);
    }

    private static void best() {
        StormFelling x = new StormFelling();
        due("best(-1)", x.best(-1), UNKNOWN);
        due("best(3)", x.best(3), UNKNOWN);
        due("best(greatest)", x.best(GREATEST), UNKNOWN);
        due("best(0)", x.best(0), NONE);
        x.grow(63, 99);
        due("too far", x.best(0), NONE);
        tellFirstColumn(x);
        x.grow(1, 90);
        x.grow(40, 2);
        due("the one that stands to lose the most", x.best(0), 40);
        x.grow(40, 0);
        due("the greatest worth", x.best(0), 1);
        x.grow(18, 90);
        due("the shortest way", x.best(0), 1);
        due("the shortest way", x.best(2), 1);
        x.grow(3, 90);
        due("the lowest", x.best(2), 1);
        x.grow(10, 90);
        due("the lowest", x.best(2), 1);
        x.grow(18, 91);
        due("the greatest worth", x.best(2), 18);
        x.grow(32, 1);
        due("what it stands to lose", x.best(1), 32);
        due("what is too far counts for nothing", x.best(2), 18);
        x.grow(24, 2);
        due("the most", x.best(0), 24);
        x.grow(24, 1);
        due("a shorter way", x.best(0), 24);
        x.set(2, 9);
        due("none can be felled", x.best(0), NONE);
    }

    private static void openRow() {
        StormFelling x = new StormFelling();
        due("openRow()", x.openRow(), 0);
        x.hint(0, 0);
        due("all columns in the last row alone", x.openRow(), 7);
        x.hint(7, 0);
        due("the columns 0 to 3 in the rows 3 and 4", x.openRow(), 3);
        x.hint(3, 2);
        due("three columns in the rows 4 and 5", x.openRow(), 4);
        x.hint(4, 3);
        due("two columns in the rows 1 and 2", x.openRow(), 1);
        x.hint(1, 1);
        due("two columns in the row 2 alone", x.openRow(), 2);
        due("paths", x.count(5), 2);
        x.hint(2, 1);
        due("one path left", x.openRow(), NONE);
    }

    private static void ifTold() {
        StormFelling x = new StormFelling();
        due("ifTold(-1, 0)", x.ifTold(-1, 0), UNKNOWN);
        due("ifTold(8, 0)", x.ifTold(8, 0), UNKNOWN);
        due("ifTold(8, 8)", x.ifTold(8, 8), UNKNOWN);
        due("ifTold(0, -1)", x.ifTold(0, -1), BAD_VALUE);
        due("ifTold(7, 8)", x.ifTold(7, 8), BAD_VALUE);
        due("ifTold(0, 0)", x.ifTold(0, 0), 750);
        due("ifTold(7, 7)", x.ifTold(7, 7), 750);
        x.hint(0, 0);
        due("the one that is told", x.ifTold(0, 0), 750);
        due("another one", x.ifTold(0, 1), 0);
        due("ifTold(1, 1)", x.ifTold(1, 1), 483);
        due("out of reach", x.ifTold(1, 2), 0);
        due("ifTold(7, 7)", x.ifTold(7, 7), 1);
        due("hints", x.count(6), 1);
        due("history", x.count(15), 1);
    }

    private static void count() {
        StormFelling x = new StormFelling();
        due("count(-1)", x.count(-1), BAD_VALUE);
        due("count(17)", x.count(17), BAD_VALUE);
        due("count(least)", x.count(LEAST), BAD_VALUE);
        due("count(greatest)", x.count(GREATEST), BAD_VALUE);
        x.set(0, 20);
        x.set(1, 1);
        x.set(2, 2);
        x.endDays(4);
        for (int row = 1; row < 8; row++) {
            x.hint(row, 0);
        }
        x.grow(0, 3);
        x.grow(1, 3);
        x.grow(2, 3);
        x.grow(3, 3);
        due("worth of all plots", x.count(1), 12);
        due("endangered", x.count(2), 17);
        due("doomed", x.count(3), 16);
        due("stand to lose, each rounded down", x.count(4), 7);
        due("paths", x.count(5), 2);
        due("hints", x.count(6), 7);
        x.fell(2);
        x.go(2, 3);
        x.fell(2);
        x.fell(1);
        x.grow(1, 3);
        x.fell(1);
        x.grow(1, 9);
        due("saved", x.count(7), 12);
        due("felled, each once", x.count(11), 3);
        x.hint(0, 0);
        due("endangered", x.count(2), 16);
        due("doomed", x.count(3), 16);
        due("stand to lose", x.count(4), 12);
        due("storm()", x.storm(), 12);
        due("worth", x.count(1), 0);
        due("lost", x.count(8), 12);
        due("regretted", x.count(9), 12);
        due("endangered with all paths left", x.count(2), 64);
        due("doomed with all paths left", x.count(3), 0);
        due("storms", x.count(10), 1);
        due("felled since the storm", x.count(11), 0);
        due("saved", x.count(7), 12);
        due("day", x.count(0), 4);
        due("steps a day", x.count(12), 20);
        due("reach", x.count(13), 1);
        due("steps to fell", x.count(14), 2);
        due("history", x.count(15), 4);
        x.type('x');
        due("length", x.count(16), 1);
    }
}
