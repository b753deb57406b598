import java.util.List;

/** What the document says of each plot, crew, path, number and sign, tried with each of them. */
public final class EachOneTest {
    private static final int FULL_DAY = 30;
    private static final String SIGNS_OF_THINGS = "trhgf.";
    private static final String DAYS = "t12=34;g1>23;r5;h6:7;f0;.89";
    private static final String[] NUMBERS = {
        "t#=1", "t1=#", "r#", "h#:1", "h1:#", "g#>5", "g1>#", "f#", ".#"};

    private static final Checks CHECKS = new Checks();

    public static void main(String[] arguments) {
        CHECKS.test("promise 2: each worth on each plot", EachOneTest::grow);
        CHECKS.test("promise 3: the mud of each plot", EachOneTest::rain);
        CHECKS.test("promise 4: each number of days", EachOneTest::endDays);
        CHECKS.test("promise 5: each value of each setting", EachOneTest::set);
        CHECKS.test("promise 6: each crew to each plot, with each mud", EachOneTest::go);
        CHECKS.test("promise 7: each crew on each plot", EachOneTest::fell);
        CHECKS.test("promise 8: two hints in any rows and columns", EachOneTest::hint);
        CHECKS.test("promise 10: the storm on each path, with each reach", EachOneTest::storm);
        CHECKS.test("promise 11: each character", EachOneTest::type);
        CHECKS.test("promise 13: each number from 0 to 999 in each place", EachOneTest::numbers);
        CHECKS.test("promise 13: a zero in front of each digit", EachOneTest::zeros);
        CHECKS.test("promise 13: each sign in place of each one", EachOneTest::otherSigns);
        CHECKS.test("promise 13: each sign ahead of each one", EachOneTest::moreSigns);
        CHECKS.test("promise 13: each beginning and each end of a text", EachOneTest::parts);
        CHECKS.test("promise 21: from each plot to each other", EachOneTest::way);
        CHECKS.test("promise 23: the better one of any two plots", EachOneTest::best);
        CHECKS.test("promise 1: objects side by side share nothing", EachOneTest::sideBySide);
        CHECKS.end();
    }

    private static void due(String what, long got, long want) {
        CHECKS.due(what, got, want);
    }

    private static StormFelling withFullDay() {
        StormFelling woods = new StormFelling();
        woods.set(0, FULL_DAY);
        woods.endDays(1);
        return woods;
    }

    private static int distance(int from, int to) {
        return Math.abs(from / 8 - to / 8) + Math.abs(from % 8 - to % 8);
    }

    // ---- plots and crews

    private static void grow() {
        for (int plot = 0; plot < 64; plot++) {
            StormFelling woods = new StormFelling();
            for (int worth = 1; worth <= 99; worth++) {
                due("grow(" + plot + ", " + worth + ")", woods.grow(plot, worth), worth - 1);
                due("plot(" + plot + ", 0)", woods.plot(plot, 0), worth);
                due("grow again", woods.grow(plot, worth), StormFelling.NONE);
            }
            for (int other = 0; other < 64; other++) {
                due("plot(" + other + ", 0)", woods.plot(other, 0), other == plot ? 99 : 0);
            }
            due("grow(" + plot + ", 0)", woods.grow(plot, 0), 99);
        }
    }

    private static void rain() {
        for (int first = 1; first <= 9; first++) {
            for (int second = 1; second <= 9; second++) {
                StormFelling woods = new StormFelling();
                int mud = Math.min(9, first + second);
                due("rain(" + first + ")", woods.rain(first), first == 9 ? 64 : 0);
                due("rain(" + second + ")", woods.rain(second), mud == 9 ? 64 : 0);
                for (int plot = 0; plot < 64; plot++) {
                    due("plot(" + plot + ", 1)", woods.plot(plot, 1), mud);
                }
            }
        }
    }

    private static void endDays() {
        for (int days = 1; days <= 99; days++) {
            StormFelling woods = new StormFelling();
            woods.rain(9);
            woods.go(1, 0);
            woods.go(2, 10);
            due("endDays(" + days + ")", woods.endDays(days), days);
            for (int plot = 0; plot < 64; plot++) {
                due("plot(" + plot + ", 1)", woods.plot(plot, 1), Math.max(0, 9 - days));
            }
            for (int crew = 0; crew < 3; crew++) {
                due("crew(" + crew + ", 1)", woods.crew(crew, 1), 8);
            }
        }
    }

    private static void set() {
        int[] least = {1, 0, 1};
        int[] greatest = {30, 2, 9};
        for (int which = 0; which < 3; which++) {
            StormFelling woods = new StormFelling();
            int previous = woods.count(12 + which);
            for (int value = least[which] - 3; value <= greatest[which] + 3; value++) {
                boolean fits = value >= least[which] && value <= greatest[which];
                int answer = value == previous ? StormFelling.NONE : previous;
                due("set(" + which + ", " + value + ")", woods.set(which, value),
                        fits ? answer : StormFelling.BAD_VALUE);
                previous = fits ? value : previous;
                due("count(" + (12 + which) + ")", woods.count(12 + which), previous);
            }
        }
        for (int steps = 1; steps <= 30; steps++) {
            StormFelling woods = new StormFelling();
            woods.set(0, steps);
            woods.endDays(1);
            due("steps of a day", woods.crew(1, 1), steps);
        }
        for (int steps = 1; steps <= 9; steps++) {
            StormFelling woods = withFullDay();
            woods.set(2, steps);
            woods.grow(1, 5);
            woods.fell(1);
            due("steps behind felling", woods.crew(1, 1), FULL_DAY - steps);
        }
    }

    private static void go() {
        for (int mud = 0; mud <= 9; mud++) {
            for (int from = 0; from < 3; from++) {
                for (int plot = 0; plot < 64; plot++) {
                    StormFelling woods = withFullDay();
                    woods.rain(mud);
                    int left = FULL_DAY - distance(from, plot) * (1 + mud / 3);
                    String call = "(" + from + ", " + plot + ") in a mud of " + mud;
                    int answer = plot == from ? StormFelling.NONE : left;
                    due("way" + call, woods.way(from, plot), FULL_DAY - left);
                    due("go" + call, woods.go(from, plot),
                            left < 0 ? StormFelling.NOT_POSSIBLE : answer);
                    due("place", woods.crew(from, 0), left < 0 ? from : plot);
                    due("steps", woods.crew(from, 1), left < 0 ? FULL_DAY : left);
                }
            }
        }
    }

    private static void fell() {
        for (int crew = 0; crew < 3; crew++) {
            for (int plot = 0; plot < 64; plot++) {
                StormFelling woods = withFullDay();
                int worth = 1 + (plot * 31 + crew) % 99;
                woods.grow(plot, worth);
                due("reason", woods.reason(crew, plot), 0);
                woods.go(crew, plot);
                due("fell(" + crew + ") on " + plot, woods.fell(crew), worth);
                for (int other = 0; other < 64; other++) {
                    due("plot(" + other + ", 6)", woods.plot(other, 6), other == plot ? 1 : 0);
                    due("plot(" + other + ", 0)", woods.plot(other, 0), 0);
                }
                for (int other = 0; other < 3; other++) {
                    due("crew(" + other + ", 2)", woods.crew(other, 2), other == crew ? worth : 0);
                    due("crew(" + other + ", 3)", woods.crew(other, 3), other == crew ? 1 : 0);
                }
                due("count(7)", woods.count(7), worth);
                due("count(11)", woods.count(11), 1);
            }
        }
    }

    private static void way() {
        for (int from = 0; from < 64; from++) {
            StormFelling woods = withFullDay();
            woods.go(2, from);
            for (int to = 0; to < 64; to++) {
                due("way from " + from + " to " + to, woods.way(2, to), distance(from, to));
            }
        }
    }

    /** One path is left, down the column 0; a and b have the same worth, or b has one more. */
    private static void best() {
        for (int a = 0; a < 64; a++) {
            for (int b = a + 1; b < 64; b++) {
                StormFelling woods = withFullDay();
                woods.hint(0, 0);
                woods.hint(7, 0);
                for (int row = 1; row < 7; row++) {
                    woods.hint(row, 0);
                }
                woods.grow(a, 7);
                woods.grow(b, 7);
                boolean loses = a % 8 == 0;
                boolean same = loses == (b % 8 == 0);
                int found = distance(2, b) < distance(2, a) ? b : a;
                due("best of " + a + " and " + b, woods.best(2), same ? found : loses ? a : b);
                woods.grow(b, 8);
                due("best of " + a + " and the dearer " + b, woods.best(2),
                        same || !loses ? b : a);
            }
        }
    }

    // ---- hints and storms

    private static void hint() {
        for (int first = 0; first < 64; first++) {
            for (int second = 0; second < 64; second++) {
                StormFelling woods = new StormFelling();
                SlowWood slow = new SlowWood();
                due("the hint for " + first, woods.hint(first / 8, first % 8),
                        slow.hint(first / 8, first % 8));
                due("the hint for " + second + " behind that for " + first,
                        woods.hint(second / 8, second % 8), slow.hint(second / 8, second % 8));
                sameOfPaths(woods, slow, (first + second) % 3);
                due("takeBack", woods.takeBack(first / 8), slow.takeBack(first / 8));
            }
        }
    }

    private static void sameOfPaths(StormFelling woods, SlowWood slow, int reach) {
        woods.set(1, reach);
        slow.set(1, reach);
        due("count(5)", woods.count(5), slow.count(5));
        due("openRow()", woods.openRow(), slow.openRow());
        for (int row = 0; row < 8; row++) {
            for (int what = 0; what < 3; what++) {
                due("row(" + row + ", " + what + ")", woods.row(row, what), slow.row(row, what));
            }
            for (int column = 0; column < 8; column++) {
                int plot = row * 8 + column;
                due("ifTold(" + row + ", " + column + ")", woods.ifTold(row, column),
                        slow.ifTold(row, column));
                for (int what = 2; what < 5; what++) {
                    due("plot(" + plot + ", " + what + ")", woods.plot(plot, what),
                            slow.plot(plot, what));
                }
            }
        }
    }

    private static void storm() {
        List<int[]> paths = new SlowWood().left();
        due("paths", paths.size(), 11814);
        for (int[] path : paths) {
            for (int reach = 0; reach < 3; reach++) {
                stormOn(path, reach);
            }
        }
    }

    private static void stormOn(int[] path, int reach) {
        StormFelling woods = new StormFelling();
        woods.set(1, reach);
        int lost = 0;
        for (int plot = 0; plot < 64; plot++) {
            woods.grow(plot, plot + 1);
            lost += Math.abs(path[plot / 8] - plot % 8) <= reach ? plot + 1 : 0;
        }
        for (int row = 0; row < 8; row++) {
            woods.hint(row, path[row]);
        }
        due("count(4)", woods.count(4), lost);
        due("storm()", woods.storm(), lost);
        due("count(1)", woods.count(1), 65 * 32 - lost);
        due("count(8)", woods.count(8), lost);
        due("count(6)", woods.count(6), 0);
        for (int plot = 0; plot < 64; plot++) {
            boolean hit = Math.abs(path[plot / 8] - plot % 8) <= reach;
            due("plot(" + plot + ", 0)", woods.plot(plot, 0), hit ? 0 : plot + 1);
        }
    }

    // ---- texts

    private static void type() {
        StormFelling woods = new StormFelling();
        for (int sign = 0; sign <= Character.MAX_VALUE; sign++) {
            if (sign % 128 == 0) {
                woods = new StormFelling();
            }
            due("type(" + sign + ")", woods.type((char) sign), 1);
            boolean begins = SIGNS_OF_THINGS.indexOf(sign) >= 0;
            due("perform()", woods.perform(), begins ? -101 : -100);
            due("clearText()", woods.clearText(), 1);
        }
    }

    /** Performs a text on a new object and on SlowWood: answers and what is told are the same. */
    private static void same(String text) {
        StormFelling woods = new StormFelling();
        SlowWood slow = new SlowWood();
        for (char sign : text.toCharArray()) {
            due("type", woods.type(sign), slow.type(sign));
        }
        due("perform() of " + text, woods.perform(), slow.perform());
        int[] counts = {0, 15, 16};
        for (int what : counts) {
            due("count(" + what + ") behind " + text, woods.count(what), slow.count(what));
        }
        for (int plot = 0; plot < 64; plot++) {
            due("worth behind " + text, woods.plot(plot, 0), slow.plot(plot, 0));
            due("mud behind " + text, woods.plot(plot, 1), slow.plot(plot, 1));
            due("felled behind " + text, woods.plot(plot, 6), slow.plot(plot, 6));
        }
        for (int crew = 0; crew < 3; crew++) {
            for (int what = 0; what < 4; what++) {
                due("crew behind " + text, woods.crew(crew, what), slow.crew(crew, what));
            }
        }
        for (int row = 0; row < 8; row++) {
            due("hint behind " + text, woods.row(row, 0), slow.row(row, 0));
        }
        due("stopped(0) behind " + text, woods.stopped(0), slow.stopped(0));
        due("stopped(1) behind " + text, woods.stopped(1), slow.stopped(1));
    }

    private static void numbers() {
        for (String thing : NUMBERS) {
            for (int number = 0; number <= 999; number++) {
                same(thing.replace("#", Integer.toString(number)));
            }
        }
    }

    private static void zeros() {
        for (String thing : NUMBERS) {
            for (int number = 0; number <= 99; number++) {
                same(thing.replace("#", "0" + number));
                same("r1;" + thing.replace("#", "00" + number) + ";r1");
            }
        }
    }

    private static void otherSigns() {
        for (int at = 0; at < DAYS.length(); at++) {
            for (int sign = 0; sign < 256; sign++) {
                same(DAYS.substring(0, at) + (char) sign + DAYS.substring(at + 1));
            }
        }
    }

    private static void moreSigns() {
        for (int at = 0; at <= DAYS.length(); at++) {
            for (int sign = 0; sign < 256; sign++) {
                same(DAYS.substring(0, at) + (char) sign + DAYS.substring(at));
            }
        }
    }

    private static void parts() {
        for (int at = 0; at <= DAYS.length(); at++) {
            same(DAYS.substring(0, at));
            same(DAYS.substring(at));
            same(DAYS.substring(0, at) + DAYS.substring(Math.min(at + 1, DAYS.length())));
        }
    }

    // ---- objects

    /** Eight objects, a call on each in turn: each answers as if there were no other. */
    private static void sideBySide() {
        StormFelling[] woods = new StormFelling[8];
        SlowWood[] slow = new SlowWood[8];
        for (int index = 0; index < 8; index++) {
            woods[index] = new StormFelling();
            slow[index] = new SlowWood();
        }
        for (int turn = 0; turn < 40; turn++) {
            for (int index = 0; index < 8; index++) {
                turn(woods[index], slow[index], turn, index);
            }
        }
    }

    private static void turn(StormFelling woods, SlowWood slow, int turn, int index) {
        int row = (turn + index) % 8;
        char sign = DAYS.charAt(turn * (index + 1) % DAYS.length());
        due("grow", woods.grow(turn + index, index + 1), slow.grow(turn + index, index + 1));
        due("rain", woods.rain(1 + index), slow.rain(1 + index));
        due("go", woods.go(index % 3, turn), slow.go(index % 3, turn));
        due("fell", woods.fell(index % 3), slow.fell(index % 3));
        due("hint", woods.hint(row, index), slow.hint(row, index));
        due("set", woods.set(index % 3, turn % 10), slow.set(index % 3, turn % 10));
        due("type", woods.type(sign), slow.type(sign));
        due("perform", woods.perform(), slow.perform());
        if ((turn + index) % 5 == 0) {
            due("undo", woods.undo(), slow.undo());
            due("keep", woods.keep(), slow.keep());
            due("endDays", woods.endDays(index + 1), slow.endDays(index + 1));
        }
        if ((turn + index) % 7 == 0) {
            due("restore", woods.restore(), slow.restore());
            due("storm", woods.storm(), slow.storm());
        }
        due("stopped", woods.stopped(0), slow.stopped(0));
        due("best", woods.best(index % 3), slow.best(index % 3));
    }
}
