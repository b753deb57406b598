import java.util.ArrayList;
import java.util.Arrays;
import java.util.Collections;
import java.util.List;
import java.util.regex.Matcher;
import java.util.regex.Pattern;

/**
 * The document once more, in its most literal form: every path is written out, every plot has mud
 * of its own, ways are searched step by step, the text is matched by a pattern. It shares no code
 * and no idea with the program, so that both going wrong alike is unlikely.
 */
final class SlowWood {
    static final int UNKNOWN = -1;
    static final int BAD_VALUE = -2;
    static final int FULL = -3;
    static final int NOT_POSSIBLE = -4;
    static final int NONE = -5;

    private static final List<int[]> ALL_PATHS = new ArrayList<>();
    private static final String PLOT = "(?:[0-9]|[1-5][0-9]|6[0-3])";
    private static final String THING = "(?:t" + PLOT + "=(?:0|[1-9][0-9]?)|r[1-9]|h[0-7]:[0-7]"
            + "|g[0-2]>" + PLOT + "|f[0-2]|\\.[1-9][0-9]?)";
    private static final Pattern TEXT = Pattern.compile(THING + "(?:;" + THING + ")*");

    static {
        writeOut(new int[8], 0);
    }

    private static void writeOut(int[] path, int row) {
        if (row == 8) {
            ALL_PATHS.add(path.clone());
            return;
        }
        for (int column = 0; column < 8; column++) {
            if (row == 0 || Math.abs(column - path[row - 1]) <= 1) {
                path[row] = column;
                writeOut(path, row + 1);
            }
        }
    }

    /** All that undo and restore bring back. */
    private static final class State {
        int[] worth = new int[64];
        int[] mud = new int[64];
        boolean[] felled = new boolean[64];
        int[] place = {0, 1, 2};
        int[] steps = {8, 8, 8};
        int[] saved = new int[3];
        int[] fellings = new int[3];
        Integer[] hints = new Integer[8];
        int[] settings = {8, 0, 3};
        int day;
        int savedInAll;
        int lost;
        int regretted;
        int storms;

        State copy() {
            State copy = new State();
            copy.worth = worth.clone();
            copy.mud = mud.clone();
            copy.felled = felled.clone();
            copy.place = place.clone();
            copy.steps = steps.clone();
            copy.saved = saved.clone();
            copy.fellings = fellings.clone();
            copy.hints = hints.clone();
            copy.settings = settings.clone();
            copy.day = day;
            copy.savedInAll = savedInAll;
            copy.lost = lost;
            copy.regretted = regretted;
            copy.storms = storms;
            return copy;
        }
    }

    private interface Act {
        int run();
    }

    private State state = new State();
    private final List<State> history = new ArrayList<>();
    private State snapshot;
    private String text = "";
    private int[] stop;
    private List<int[]> leftPaths;
    private Integer[] leftFor;

    private int act(Act act) {
        State before = state.copy();
        int answer = act.run();
        if (answer >= 0) {
            history.add(before);
            if (history.size() > 4) {
                history.remove(0);
            }
        } else {
            state = before;
        }
        return answer;
    }

    private static boolean bad(int number, int least, int greatest) {
        return number < least || number > greatest;
    }

    List<int[]> left() {
        if (leftFor == null || !Arrays.equals(leftFor, state.hints)) {
            leftFor = state.hints.clone();
            leftPaths = keeping(ALL_PATHS, leftFor);
        }
        return leftPaths;
    }

    private static List<int[]> keeping(List<int[]> paths, Integer[] hints) {
        List<int[]> kept = new ArrayList<>();
        for (int[] path : paths) {
            boolean fits = true;
            for (int row = 0; row < 8; row++) {
                fits &= hints[row] == null || hints[row] == path[row];
            }
            if (fits) {
                kept.add(path);
            }
        }
        return kept;
    }

    private boolean hits(int[] path, int plot) {
        return Math.abs(path[plot / 8] - plot % 8) <= state.settings[1];
    }

    private int hitting(int plot) {
        int number = 0;
        for (int[] path : left()) {
            if (hits(path, plot)) {
                number++;
            }
        }
        return number;
    }

    private int atStake(int plot) {
        return (int) ((long) state.worth[plot] * hitting(plot) / left().size());
    }

    // ---- acts

    int grow(int plot, int worth) {
        return act(() -> growNow(plot, worth));
    }

    private int growNow(int plot, int worth) {
        if (bad(plot, 0, 63)) {
            return UNKNOWN;
        }
        if (bad(worth, 0, 99)) {
            return BAD_VALUE;
        }
        int previous = state.worth[plot];
        state.worth[plot] = worth;
        return previous == worth ? NONE : previous;
    }

    int rain(int mud) {
        return act(() -> rainNow(mud));
    }

    private int rainNow(int mud) {
        if (bad(mud, 1, 9)) {
            return BAD_VALUE;
        }
        int full = 0;
        for (int plot = 0; plot < 64; plot++) {
            state.mud[plot] = Math.min(9, state.mud[plot] + mud);
            full += state.mud[plot] == 9 ? 1 : 0;
        }
        return full;
    }

    int endDays(int days) {
        return act(() -> endDaysNow(days));
    }

    private int endDaysNow(int days) {
        if (bad(days, 1, 99)) {
            return BAD_VALUE;
        }
        for (int n = 0; n < days; n++) {
            state.day++;
            for (int plot = 0; plot < 64; plot++) {
                if (state.mud[plot] > 0) {
                    state.mud[plot]--;
                }
            }
            Arrays.fill(state.steps, state.settings[0]);
        }
        return state.day > 9999 ? FULL : state.day;
    }

    int set(int which, int value) {
        return act(() -> {
            if (bad(which, 0, 2)) {
                return UNKNOWN;
            }
            int[][] ranges = {{1, 30}, {0, 2}, {1, 9}};
            if (bad(value, ranges[which][0], ranges[which][1])) {
                return BAD_VALUE;
            }
            int previous = state.settings[which];
            state.settings[which] = value;
            return previous == value ? NONE : previous;
        });
    }

    int go(int crew, int plot) {
        return act(() -> goNow(crew, plot));
    }

    private int goNow(int crew, int plot) {
        int steps = way(crew, plot);
        if (steps < 0) {
            return UNKNOWN;
        }
        if (steps > state.steps[crew]) {
            return NOT_POSSIBLE;
        }
        if (state.place[crew] == plot) {
            return NONE;
        }
        state.place[crew] = plot;
        state.steps[crew] -= steps;
        return state.steps[crew];
    }

    int fell(int crew) {
        return act(() -> fellNow(crew));
    }

    private int fellNow(int crew) {
        if (bad(crew, 0, 2)) {
            return UNKNOWN;
        }
        state.steps[crew] -= state.settings[2];
        if (state.steps[crew] < 0) {
            return NOT_POSSIBLE;
        }
        int plot = state.place[crew];
        int worth = state.worth[plot];
        if (worth == 0) {
            return NONE;
        }
        state.worth[plot] = 0;
        state.felled[plot] = true;
        state.saved[crew] += worth;
        state.savedInAll += worth;
        state.fellings[crew]++;
        return worth;
    }

    int hint(int row, int column) {
        return act(() -> hintNow(row, column));
    }

    private int hintNow(int row, int column) {
        if (bad(row, 0, 7)) {
            return UNKNOWN;
        }
        if (bad(column, 0, 7)) {
            return BAD_VALUE;
        }
        if (state.hints[row] != null) {
            return NOT_POSSIBLE;
        }
        state.hints[row] = column;
        return left().isEmpty() ? NOT_POSSIBLE : left().size();
    }

    int takeBack(int row) {
        return act(() -> {
            if (bad(row, 0, 7)) {
                return UNKNOWN;
            }
            if (state.hints[row] == null) {
                return NONE;
            }
            state.hints[row] = null;
            return left().size();
        });
    }

    int storm() {
        return act(() -> {
            if (left().size() > 1) {
                return NOT_POSSIBLE;
            }
            int[] path = left().get(0);
            int vain = 0;
            int lost = 0;
            List<Integer> losses = new ArrayList<>();
            for (int plot = 0; plot < 64; plot++) {
                if (hits(path, plot)) {
                    lost += state.worth[plot];
                    losses.add(state.worth[plot]);
                    state.worth[plot] = 0;
                } else if (state.felled[plot]) {
                    vain++;
                }
            }
            losses.sort(Collections.reverseOrder());
            for (int n = 0; n < Math.min(vain, losses.size()); n++) {
                state.regretted += losses.get(n);
            }
            state.lost += lost;
            state.storms++;
            Arrays.fill(state.hints, null);
            Arrays.fill(state.felled, false);
            return lost;
        });
    }

    // ---- texts

    int type(char character) {
        if (text.length() == 60) {
            return FULL;
        }
        text += character;
        return text.length();
    }

    int clearText() {
        int length = text.length();
        text = "";
        return length;
    }

    /** The index of the fault, or -1. */
    private int fault() {
        for (int end = 1; end <= text.length(); end++) {
            Matcher matcher = TEXT.matcher(text.substring(0, end));
            if (!matcher.matches() && !matcher.hitEnd()) {
                return end - 1;
            }
        }
        return TEXT.matcher(text).matches() ? -1 : text.length();
    }

    int perform() {
        int fault = fault();
        if (fault >= 0) {
            return -100 - fault;
        }
        String[] things = text.split(";");
        return act(() -> {
            for (int number = 0; number < things.length; number++) {
                int answer = doThing(things[number]);
                if (answer < 0 && answer != NONE) {
                    stop = new int[] {number, answer};
                    return NOT_POSSIBLE;
                }
            }
            return things.length;
        });
    }

    private int doThing(String thing) {
        String[] parts = thing.substring(1).split("[=:>]");
        int first = Integer.parseInt(parts[0]);
        int second = parts.length > 1 ? Integer.parseInt(parts[1]) : 0;
        State before = state.copy();
        int answer;
        switch (thing.charAt(0)) {
            case 't': answer = growNow(first, second); break;
            case 'r': answer = rainNow(first); break;
            case 'h': answer = hintNow(first, second); break;
            case 'g': answer = goNow(first, second); break;
            case 'f': answer = fellNow(first); break;
            default: answer = endDaysNow(first); break;
        }
        if (answer < 0) {
            state = before;
        }
        return answer;
    }

    int stopped(int what) {
        if (bad(what, 0, 1)) {
            return BAD_VALUE;
        }
        return stop == null ? NONE : stop[what];
    }

    // ---- history

    int undo() {
        if (history.isEmpty()) {
            return NONE;
        }
        state = history.remove(history.size() - 1);
        return history.size();
    }

    int keep() {
        snapshot = state.copy();
        return state.day;
    }

    int restore() {
        return act(() -> {
            if (snapshot == null) {
                return NONE;
            }
            state = snapshot.copy();
            return state.day;
        });
    }

    // ---- what is told

    int plot(int plot, int what) {
        if (bad(plot, 0, 63)) {
            return UNKNOWN;
        }
        switch (what) {
            case 0: return state.worth[plot];
            case 1: return state.mud[plot];
            case 2: return hitting(plot);
            case 3: return hitting(plot) > 0 ? 1 : 0;
            case 4: return hitting(plot) == left().size() ? 1 : 0;
            case 5: return atStake(plot);
            case 6: return state.felled[plot] ? 1 : 0;
            default: return BAD_VALUE;
        }
    }

    int crew(int crew, int what) {
        if (bad(crew, 0, 2)) {
            return UNKNOWN;
        }
        switch (what) {
            case 0: return state.place[crew];
            case 1: return state.steps[crew];
            case 2: return state.saved[crew];
            case 3: return state.fellings[crew];
            default: return BAD_VALUE;
        }
    }

    int row(int row, int what) {
        if (bad(row, 0, 7)) {
            return UNKNOWN;
        }
        if (bad(what, 0, 2)) {
            return BAD_VALUE;
        }
        if (what == 0) {
            return state.hints[row] == null ? NONE : state.hints[row];
        }
        int least = 8;
        int greatest = -1;
        for (int[] path : left()) {
            least = Math.min(least, path[row]);
            greatest = Math.max(greatest, path[row]);
        }
        return what == 1 ? least : greatest;
    }

    int way(int crew, int plot) {
        if (bad(crew, 0, 2) || bad(plot, 0, 63)) {
            return UNKNOWN;
        }
        int[] cost = new int[64];
        Arrays.fill(cost, 1_000_000);
        cost[state.place[crew]] = 0;
        boolean better = true;
        while (better) {
            better = false;
            for (int from = 0; from < 64; from++) {
                for (int to = 0; to < 64; to++) {
                    boolean near = Math.abs(from / 8 - to / 8) + Math.abs(from % 8 - to % 8) == 1;
                    int then = cost[from] + 1 + state.mud[to] / 3;
                    if (near && then < cost[to]) {
                        cost[to] = then;
                        better = true;
                    }
                }
            }
        }
        return cost[plot];
    }

    int reason(int crew, int plot) {
        int steps = way(crew, plot);
        if (steps < 0) {
            return UNKNOWN;
        }
        if (state.worth[plot] == 0) {
            return 1;
        }
        if (steps > state.steps[crew]) {
            return 2;
        }
        return steps + state.settings[2] > state.steps[crew] ? 3 : 0;
    }

    int best(int crew) {
        if (bad(crew, 0, 2)) {
            return UNKNOWN;
        }
        int found = NONE;
        long foundRank = -1;
        for (int plot = 0; plot < 64; plot++) {
            if (reason(crew, plot) == 0) {
                long rank = ((atStake(plot) * 1000L + state.worth[plot]) * 1000L
                        + (999 - way(crew, plot))) * 100L + (63 - plot);
                if (rank > foundRank) {
                    foundRank = rank;
                    found = plot;
                }
            }
        }
        return found;
    }

    int openRow() {
        if (left().size() == 1) {
            return NONE;
        }
        int found = -1;
        int most = -1;
        for (int row = 0; row < 8; row++) {
            boolean[] seen = new boolean[8];
            int different = 0;
            for (int[] path : left()) {
                if (!seen[path[row]]) {
                    seen[path[row]] = true;
                    different++;
                }
            }
            if (different > most) {
                most = different;
                found = row;
            }
        }
        return found;
    }

    int ifTold(int row, int column) {
        if (bad(row, 0, 7)) {
            return UNKNOWN;
        }
        if (bad(column, 0, 7)) {
            return BAD_VALUE;
        }
        int number = 0;
        for (int[] path : left()) {
            number += path[row] == column ? 1 : 0;
        }
        return number;
    }

    int count(int what) {
        int[] sums = new int[7];
        if (what >= 1 && what <= 11) {
            for (int plot = 0; plot < 64; plot++) {
                sums[0] += state.worth[plot];
                sums[1] += plot(plot, 3);
                sums[2] += plot(plot, 4);
                sums[3] += atStake(plot);
                sums[4] += state.felled[plot] ? 1 : 0;
            }
        }
        switch (what) {
            case 0: return state.day;
            case 1: return sums[0];
            case 2: return sums[1];
            case 3: return sums[2];
            case 4: return sums[3];
            case 5: return left().size();
            case 6: return 8 - Collections.frequency(Arrays.asList(state.hints), null);
            case 7: return state.savedInAll;
            case 8: return state.lost;
            case 9: return state.regretted;
            case 10: return state.storms;
            case 11: return sums[4];
            case 12: return state.settings[0];
            case 13: return state.settings[1];
            case 14: return state.settings[2];
            case 15: return history.size();
            case 16: return text.length();
            default: return BAD_VALUE;
        }
    }
}
