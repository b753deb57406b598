import java.util.List;

/** Long runs of calls, always the same ones, each answer of which is compared with SlowWood's. */
public final class RandomRunsTest {
    private static final int RUNS = 200;
    private static final int CALLS = 512;
    private static final int[] ODD = {
        -1, 64, 8, 3, 2, 100, 10, 31, Integer.MIN_VALUE, Integer.MAX_VALUE, -5, 17, 1000};

    private final Checks checks;
    private final StringBuilder story = new StringBuilder();
    private final StormFelling wood = new StormFelling();
    private final SlowWood slow = new SlowWood();
    private final int kind;
    private long seed;
    private int calls;

    private RandomRunsTest(Checks checks, int run) {
        this.checks = checks;
        this.kind = run % 4;
        this.seed = run * 7919L + 17;
    }

    public static void main(String[] arguments) {
        Checks checks = new Checks();
        for (int run = 0; run < RUNS; run++) {
            RandomRunsTest test = new RandomRunsTest(checks, run);
            checks.test("random run " + run, test::play);
        }
        checks.end();
    }

    private void play() {
        while (calls < CALLS && checks.isGood()) {
            step();
        }
    }

    /** A number from 0 to below the bound. */
    private int any(int bound) {
        seed = seed * 6364136223846793005L + 1442695040888963407L;
        return (int) ((seed >>> 33) % bound);
    }

    private int near(int least, int greatest) {
        int way = any(40);
        if (way == 0) {
            return least - 1;
        }
        if (way == 1) {
            return greatest + 1;
        }
        if (way == 2) {
            return ODD[any(ODD.length)];
        }
        return least + any(greatest - least + 1);
    }

    private void same(String call, int got, int want) {
        calls++;
        if (got != want) {
            checks.fail("call " + calls + ", " + call + " answered " + got + ", SlowWood says "
                    + want + ", after" + story);
        }
        if (story.length() < 6000) {
            story.append(' ').append(call).append('=').append(want);
        }
    }

    private void step() {
        int way = any(100);
        if (way < 10) {
            int plot = near(0, any(2) == 0 ? 63 : 15);
            int worth = near(0, 99);
            same("grow(" + plot + ", " + worth + ")", wood.grow(plot, worth), slow.grow(plot, worth));
        } else if (way < 13) {
            int mud = near(1, 9);
            same("rain(" + mud + ")", wood.rain(mud), slow.rain(mud));
        } else if (way < 18) {
            int days = kind == 3 ? 99 - any(3) : near(1, any(3) == 0 ? 99 : 3);
            same("endDays(" + days + ")", wood.endDays(days), slow.endDays(days));
        } else if (way < 21) {
            int which = near(0, 2);
            int value = near(0, which == 0 ? 30 : which == 1 ? 2 : 9);
            same("set(" + which + ", " + value + ")", wood.set(which, value), slow.set(which, value));
        } else if (way < 28) {
            int crew = near(0, 2);
            int plot = near(0, 63);
            if (any(3) > 0 && slow.best(crew) >= 0) {
                plot = slow.best(crew);
            }
            same("go(" + crew + ", " + plot + ")", wood.go(crew, plot), slow.go(crew, plot));
        } else if (way < 35) {
            int crew = near(0, 2);
            same("fell(" + crew + ")", wood.fell(crew), slow.fell(crew));
        } else if (way < 45) {
            hintOrStorm();
        } else if (way < 47) {
            int row = near(0, 7);
            same("takeBack(" + row + ")", wood.takeBack(row), slow.takeBack(row));
        } else if (way < 54) {
            texts();
        } else if (way < 58) {
            history();
        } else {
            ask();
        }
    }

    private void hintOrStorm() {
        if (slow.left().size() == 1 && any(2) == 0 || any(20) == 0) {
            same("storm()", wood.storm(), slow.storm());
            return;
        }
        int row = near(0, 7);
        int column = near(0, 7);
        if (row >= 0 && row < 8 && any(8) > 0) {
            List<int[]> left = slow.left();
            column = left.get(any(left.size()))[row];
        }
        same("hint(" + row + ", " + column + ")", wood.hint(row, column), slow.hint(row, column));
    }

    private void texts() {
        if (any(3) > 0) {
            same("clearText()", wood.clearText(), slow.clearText());
        }
        String text = someText();
        for (int at = 0; at < text.length() && calls < CALLS; at++) {
            char sign = text.charAt(at);
            same("type('" + sign + "')", wood.type(sign), slow.type(sign));
        }
        int times = any(8) == 0 ? 2 : 1;
        for (int n = 0; n < times && calls < CALLS; n++) {
            same("perform()", wood.perform(), slow.perform());
        }
        if (any(2) == 0 && calls < CALLS) {
            int what = near(0, 1);
            same("stopped(" + what + ")", wood.stopped(what), slow.stopped(what));
        }
    }

    private String someText() {
        StringBuilder text = new StringBuilder();
        int things = 1 + any(any(10) == 0 ? 16 : 4);
        for (int n = 0; n < things; n++) {
            text.append(n == 0 ? "" : ";").append(someThing());
        }
        if (any(3) == 0) {
            String signs = "trhgf.;:=>0123456789x ";
            int at = any(text.length());
            char sign = any(30) == 0 ? (char) any(65536) : signs.charAt(any(signs.length()));
            if (any(3) == 0) {
                text.insert(at, sign);
            } else if (any(2) == 0) {
                text.setCharAt(at, sign);
            } else {
                text.deleteCharAt(at);
            }
        }
        return text.toString();
    }

    private String someThing() {
        switch (any(7)) {
            case 0: return "t" + any(any(6) == 0 ? 70 : 64) + "=" + any(any(6) == 0 ? 110 : 100);
            case 1: return "r" + (1 + any(9));
            case 2: return "h" + any(8) + ":" + any(8);
            case 3: return "g" + any(3) + ">" + any(any(2) == 0 ? 64 : 12);
            case 4: return "f" + any(3);
            case 5: return "." + (1 + any(any(6) == 0 ? 110 : 99));
            default: return "t" + any(12) + "=" + any(100);
        }
    }

    private void history() {
        int way = any(4);
        if (way == 0) {
            same("keep()", wood.keep(), slow.keep());
        } else if (way == 1) {
            same("restore()", wood.restore(), slow.restore());
        } else {
            same("undo()", wood.undo(), slow.undo());
        }
    }

    private void ask() {
        int way = any(12);
        int crew = near(0, 2);
        int plot = near(0, 63);
        int row = near(0, 7);
        int column = near(0, 7);
        if (way < 3) {
            int what = near(0, 6);
            same("plot(" + plot + ", " + what + ")", wood.plot(plot, what), slow.plot(plot, what));
        } else if (way < 6) {
            int what = near(0, 16);
            same("count(" + what + ")", wood.count(what), slow.count(what));
        } else if (way == 6) {
            int what = near(0, 3);
            same("crew(" + crew + ", " + what + ")", wood.crew(crew, what), slow.crew(crew, what));
        } else if (way == 7) {
            int what = near(0, 2);
            same("row(" + row + ", " + what + ")", wood.row(row, what), slow.row(row, what));
        } else if (way == 8) {
            same("way(" + crew + ", " + plot + ")", wood.way(crew, plot), slow.way(crew, plot));
        } else if (way == 9) {
            same("reason(" + crew + ", " + plot + ")",
                    wood.reason(crew, plot), slow.reason(crew, plot));
        } else if (way == 10) {
            same("best(" + crew + ")", wood.best(crew), slow.best(crew));
        } else {
            same("openRow()", wood.openRow(), slow.openRow());
            if (calls < CALLS) {
                same("ifTold(" + row + ", " + column + ")",
                        wood.ifTold(row, column), slow.ifTold(row, column));
            }
        }
    }
}
