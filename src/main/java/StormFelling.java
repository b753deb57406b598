/** Woods felled ahead of a storm whose path is told in parts. README.md says how to use it. */
public final class StormFelling {
    public static final int UNKNOWN = -1;
    public static final int BAD_VALUE = -2;
    public static final int FULL = -3;
    public static final int NOT_POSSIBLE = -4;
    public static final int NONE = -5;

    private static final int ROWS = 8;
    private static final int COLUMNS = 8;
    private static final int PLOTS = 64;
    private static final int CREWS = 3;
    private static final int SETTINGS = 3;
    private static final int MOST_WORTH = 99;
    private static final int MOST_MUD = 9;
    private static final int MUD_OF_A_STEP = 3;
    private static final int MOST_DAYS = 99;
    private static final int LAST_DAY = 9999;
    private static final int LONGEST_TEXT = 60;
    private static final int KEPT_STATES = 4;
    private static final int FAULT = -100;
    private static final int NO_DIGIT = -1;

    private static final int STEPS_A_DAY = 0;
    private static final int REACH_OF_STORM = 1;
    private static final int STEPS_TO_FELL = 2;
    private static final int[] LEAST_SETTINGS = {1, 0, 1};
    private static final int[] FIRST_SETTINGS = {8, 0, 3};
    private static final int[] GREATEST_SETTINGS = {30, 2, 9};

    private final Wood wood = new Wood();
    private final Wood before = new Wood();
    private final Wood snapshot = new Wood();
    private boolean hasSnapshot;
    private final History history = new History();
    private final Paths paths = new Paths();
    private final Days days = new Days();
    private int stopNumber;
    // 0 until something is stopped: every error is below 0.
    private int stopError;

    public StormFelling() {
    }

    // ---- plots, rain

    public int grow(int plot, int worth) {
        before.copyFrom(wood);
        return recorded(wood.plant(plot, worth));
    }

    public int rain(int mud) {
        before.copyFrom(wood);
        return recorded(wood.getWet(mud));
    }

    public int endDays(int days) {
        before.copyFrom(wood);
        return recorded(wood.passDays(days));
    }

    public int set(int which, int value) {
        before.copyFrom(wood);
        return recorded(wood.changeSetting(which, value));
    }

    // ---- crews

    public int go(int crew, int plot) {
        before.copyFrom(wood);
        return recorded(wood.sendCrew(crew, plot));
    }

    public int fell(int crew) {
        before.copyFrom(wood);
        return recorded(wood.fellHere(crew));
    }

    // ---- the storm

    public int hint(int row, int column) {
        before.copyFrom(wood);
        return recorded(wood.tellColumn(pathsLeft(), row, column));
    }

    public int takeBack(int row) {
        before.copyFrom(wood);
        return recorded(wood.untellColumn(paths, row));
    }

    public int storm() {
        before.copyFrom(wood);
        return recorded(wood.takeStorm(pathsLeft()));
    }

    // ---- texts

    public int type(char character) {
        return days.append(character);
    }

    public int clearText() {
        return days.empty();
    }

    public int perform() {
        int things = days.countThings();
        if (things < 0) {
            return things;
        }
        before.copyFrom(wood);
        days.startOver();
        for (int number = 0; number < things; number++) {
            days.readNext();
            int answer = doThing();
            if (isError(answer)) {
                wood.copyFrom(before);
                stopNumber = number;
                stopError = answer;
                return NOT_POSSIBLE;
            }
        }
        return recorded(things);
    }

    public int stopped(int what) {
        if (!isIn(what, 0, 1)) {
            return BAD_VALUE;
        }
        if (stopError == 0) {
            return NONE;
        }
        return what == 0 ? stopNumber : stopError;
    }

    // ---- history

    public int undo() {
        return history.pop(wood) ? history.size : NONE;
    }

    public int keep() {
        snapshot.copyFrom(wood);
        hasSnapshot = true;
        return wood.day;
    }

    public int restore() {
        if (!hasSnapshot) {
            return NONE;
        }
        before.copyFrom(wood);
        wood.copyFrom(snapshot);
        return recorded(wood.day);
    }

    // ---- what is told

    public int plot(int plot, int what) {
        if (!isIn(plot, 0, PLOTS - 1)) {
            return UNKNOWN;
        }
        switch (what) {
            case 0:
                return wood.worths[plot];
            case 1:
                return wood.mud;
            case 2:
                return wood.hits(pathsLeft(), plot);
            case 3:
                return wood.isEndangered(pathsLeft(), plot) ? 1 : 0;
            case 4:
                return wood.isDoomed(pathsLeft(), plot) ? 1 : 0;
            case 5:
                return wood.standsToLose(pathsLeft(), plot);
            case 6:
                return wood.felled[plot] ? 1 : 0;
            default:
                return BAD_VALUE;
        }
    }

    public int crew(int crew, int what) {
        if (!isIn(crew, 0, CREWS - 1)) {
            return UNKNOWN;
        }
        switch (what) {
            case 0:
                return wood.places[crew];
            case 1:
                return wood.steps[crew];
            case 2:
                return wood.saved[crew];
            case 3:
                return wood.fellings[crew];
            default:
                return BAD_VALUE;
        }
    }

    public int row(int row, int what) {
        if (!isIn(row, 0, ROWS - 1)) {
            return UNKNOWN;
        }
        switch (what) {
            case 0:
                return wood.told[row];
            case 1:
                return pathsLeft().leastColumn(row);
            case 2:
                return pathsLeft().greatestColumn(row);
            default:
                return BAD_VALUE;
        }
    }

    public int way(int crew, int plot) {
        if (!isIn(crew, 0, CREWS - 1) || !isIn(plot, 0, PLOTS - 1)) {
            return UNKNOWN;
        }
        return wood.stepsTo(crew, plot);
    }

    public int reason(int crew, int plot) {
        if (!isIn(crew, 0, CREWS - 1) || !isIn(plot, 0, PLOTS - 1)) {
            return UNKNOWN;
        }
        return wood.whyNot(crew, plot);
    }

    public int best(int crew) {
        if (!isIn(crew, 0, CREWS - 1)) {
            return UNKNOWN;
        }
        return wood.bestPlot(pathsLeft(), crew);
    }

    public int openRow() {
        return pathsLeft().mostOpenRow();
    }

    public int ifTold(int row, int column) {
        if (!isIn(row, 0, ROWS - 1)) {
            return UNKNOWN;
        }
        if (!isIn(column, 0, COLUMNS - 1)) {
            return BAD_VALUE;
        }
        return pathsLeft().through(row * COLUMNS + column);
    }

    public int count(int what) {
        switch (what) {
            case 0:
                return wood.day;
            case 1:
                return wood.worthOfAll();
            case 2:
                return wood.endangeredPlots(pathsLeft());
            case 3:
                return wood.doomedPlots(pathsLeft());
            case 4:
                return wood.allStandToLose(pathsLeft());
            case 5:
                return pathsLeft().all;
            case 6:
                return wood.hintsTold();
            case 7:
                return wood.savedByAll();
            case 8:
                return wood.lost;
            case 9:
                return wood.regretted;
            case 10:
                return wood.storms;
            case 11:
                return wood.felledPlots();
            case 12:
                return wood.settings[STEPS_A_DAY];
            case 13:
                return wood.settings[REACH_OF_STORM];
            case 14:
                return wood.settings[STEPS_TO_FELL];
            case 15:
                return history.size;
            case 16:
                return days.length;
            default:
                return BAD_VALUE;
        }
    }

    // ---- helpers

    private static boolean isIn(int number, int least, int greatest) {
        return number >= least && number <= greatest;
    }

    private static boolean isError(int answer) {
        return answer < 0 && answer != NONE;
    }

    /** Records the state that was before an act, if the act has done something. */
    private int recorded(int answer) {
        if (answer >= 0) {
            history.push(before);
        }
        return answer;
    }

    private Paths pathsLeft() {
        paths.follow(wood.told);
        return paths;
    }

    private int doThing() {
        int first = days.first;
        int second = days.second;
        if (days.kind == 't') {
            return wood.plant(first, second);
        }
        if (days.kind == 'r') {
            return wood.getWet(first);
        }
        if (days.kind == 'h') {
            return wood.tellColumn(pathsLeft(), first, second);
        }
        if (days.kind == 'g') {
            return wood.sendCrew(first, second);
        }
        if (days.kind == 'f') {
            return wood.fellHere(first);
        }
        return wood.passDays(first);
    }

    /** A state: all that undo() and restore() bring back, and the acts on it. */
    private static final class Wood {
        private final int[] worths = new int[PLOTS];
        private final boolean[] felled = new boolean[PLOTS];
        // Rain and days change the mud of all plots alike, so one number tells that of each.
        private int mud;
        private final int[] places = new int[CREWS];
        private final int[] steps = new int[CREWS];
        private final int[] saved = new int[CREWS];
        private final int[] fellings = new int[CREWS];
        private final int[] told = new int[ROWS];
        private final int[] settings = new int[SETTINGS];
        private int day;
        private int lost;
        private int regretted;
        private int storms;

        Wood() {
            for (int which = 0; which < SETTINGS; which++) {
                settings[which] = FIRST_SETTINGS[which];
            }
            for (int crew = 0; crew < CREWS; crew++) {
                places[crew] = crew;
                steps[crew] = settings[STEPS_A_DAY];
            }
            for (int row = 0; row < ROWS; row++) {
                told[row] = NONE;
            }
        }

        void copyFrom(Wood other) {
            System.arraycopy(other.worths, 0, worths, 0, PLOTS);
            System.arraycopy(other.felled, 0, felled, 0, PLOTS);
            mud = other.mud;
            System.arraycopy(other.places, 0, places, 0, CREWS);
            System.arraycopy(other.steps, 0, steps, 0, CREWS);
            System.arraycopy(other.saved, 0, saved, 0, CREWS);
            System.arraycopy(other.fellings, 0, fellings, 0, CREWS);
            System.arraycopy(other.told, 0, told, 0, ROWS);
            System.arraycopy(other.settings, 0, settings, 0, SETTINGS);
            day = other.day;
            lost = other.lost;
            regretted = other.regretted;
            storms = other.storms;
        }

        // -- acts

        int plant(int plot, int worth) {
            if (!isIn(plot, 0, PLOTS - 1)) {
                return UNKNOWN;
            }
            if (!isIn(worth, 0, MOST_WORTH)) {
                return BAD_VALUE;
            }
            int previous = worths[plot];
            if (previous == worth) {
                return NONE;
            }
            worths[plot] = worth;
            return previous;
        }

        int getWet(int more) {
            if (!isIn(more, 1, MOST_MUD)) {
                return BAD_VALUE;
            }
            mud = Math.min(MOST_MUD, mud + more);
            return mud == MOST_MUD ? PLOTS : 0;
        }

        int passDays(int number) {
            if (!isIn(number, 1, MOST_DAYS)) {
                return BAD_VALUE;
            }
            if (day + number > LAST_DAY) {
                return FULL;
            }
            day += number;
            mud = Math.max(0, mud - number);
            for (int crew = 0; crew < CREWS; crew++) {
                steps[crew] = settings[STEPS_A_DAY];
            }
            return day;
        }

        int changeSetting(int which, int value) {
            if (!isIn(which, 0, SETTINGS - 1)) {
                return UNKNOWN;
            }
            if (!isIn(value, LEAST_SETTINGS[which], GREATEST_SETTINGS[which])) {
                return BAD_VALUE;
            }
            int previous = settings[which];
            if (previous == value) {
                return NONE;
            }
            settings[which] = value;
            return previous;
        }

        int sendCrew(int crew, int plot) {
            if (!isIn(crew, 0, CREWS - 1) || !isIn(plot, 0, PLOTS - 1)) {
                return UNKNOWN;
            }
            int needed = stepsTo(crew, plot);
            if (needed > steps[crew]) {
                return NOT_POSSIBLE;
            }
            if (places[crew] == plot) {
                return NONE;
            }
            places[crew] = plot;
            steps[crew] -= needed;
            return steps[crew];
        }

        int fellHere(int crew) {
            if (!isIn(crew, 0, CREWS - 1)) {
                return UNKNOWN;
            }
            if (settings[STEPS_TO_FELL] > steps[crew]) {
                return NOT_POSSIBLE;
            }
            int plot = places[crew];
            int worth = worths[plot];
            if (worth == 0) {
                return NONE;
            }
            worths[plot] = 0;
            felled[plot] = true;
            steps[crew] -= settings[STEPS_TO_FELL];
            saved[crew] += worth;
            fellings[crew]++;
            return worth;
        }

        int tellColumn(Paths left, int row, int column) {
            if (!isIn(row, 0, ROWS - 1)) {
                return UNKNOWN;
            }
            if (!isIn(column, 0, COLUMNS - 1)) {
                return BAD_VALUE;
            }
            int leftThen = left.through(row * COLUMNS + column);
            if (told[row] != NONE || leftThen == 0) {
                return NOT_POSSIBLE;
            }
            told[row] = column;
            return leftThen;
        }

        int untellColumn(Paths left, int row) {
            if (!isIn(row, 0, ROWS - 1)) {
                return UNKNOWN;
            }
            if (told[row] == NONE) {
                return NONE;
            }
            told[row] = NONE;
            left.follow(told);
            return left.all;
        }

        int takeStorm(Paths left) {
            if (left.all > 1) {
                return NOT_POSSIBLE;
            }
            regretted += regret(left, felledInVain(left));
            int lostNow = loseWorths(left);
            lost += lostNow;
            storms++;
            for (int plot = 0; plot < PLOTS; plot++) {
                felled[plot] = false;
            }
            for (int row = 0; row < ROWS; row++) {
                told[row] = NONE;
            }
            return lostNow;
        }

        private int felledInVain(Paths left) {
            int number = 0;
            for (int plot = 0; plot < PLOTS; plot++) {
                if (felled[plot] && !isEndangered(left, plot)) {
                    number++;
                }
            }
            return number;
        }

        private int regret(Paths left, int inVain) {
            int sum = 0;
            int more = inVain;
            for (int worth = MOST_WORTH; worth > 0; worth--) {
                for (int plot = 0; plot < PLOTS; plot++) {
                    if (more > 0 && worths[plot] == worth && isEndangered(left, plot)) {
                        sum += worth;
                        more--;
                    }
                }
            }
            return sum;
        }

        private int loseWorths(Paths left) {
            int sum = 0;
            for (int plot = 0; plot < PLOTS; plot++) {
                if (isEndangered(left, plot)) {
                    sum += worths[plot];
                    worths[plot] = 0;
                }
            }
            return sum;
        }

        // -- crews

        /** With the same mud everywhere, a cheapest way is one with the fewest plots. */
        int stepsTo(int crew, int plot) {
            int from = places[crew];
            int rows = Math.abs(from / COLUMNS - plot / COLUMNS);
            int columns = Math.abs(from % COLUMNS - plot % COLUMNS);
            return (rows + columns) * (1 + mud / MUD_OF_A_STEP);
        }

        int whyNot(int crew, int plot) {
            if (worths[plot] == 0) {
                return 1;
            }
            int then = steps[crew] - stepsTo(crew, plot);
            if (then < 0) {
                return 2;
            }
            return then < settings[STEPS_TO_FELL] ? 3 : 0;
        }

        int bestPlot(Paths left, int crew) {
            int found = NONE;
            for (int plot = 0; plot < PLOTS; plot++) {
                if (whyNot(crew, plot) == 0
                        && (found == NONE || isBetter(left, crew, plot, found))) {
                    found = plot;
                }
            }
            return found;
        }

        private boolean isBetter(Paths left, int crew, int plot, int other) {
            int more = standsToLose(left, plot) - standsToLose(left, other);
            if (more != 0) {
                return more > 0;
            }
            if (worths[plot] != worths[other]) {
                return worths[plot] > worths[other];
            }
            return stepsTo(crew, plot) < stepsTo(crew, other);
        }

        // -- what paths do to plots

        int hits(Paths left, int plot) {
            return left.within(plot, settings[REACH_OF_STORM]);
        }

        boolean isEndangered(Paths left, int plot) {
            return hits(left, plot) > 0;
        }

        boolean isDoomed(Paths left, int plot) {
            return hits(left, plot) == left.all;
        }

        int standsToLose(Paths left, int plot) {
            if (left.all == 0) {
                return 0;
            }
            return worths[plot] * hits(left, plot) / left.all;
        }

        // -- sums

        int worthOfAll() {
            int sum = 0;
            for (int plot = 0; plot < PLOTS; plot++) {
                sum += worths[plot];
            }
            return sum;
        }

        int endangeredPlots(Paths left) {
            int number = 0;
            for (int plot = 0; plot < PLOTS; plot++) {
                if (isEndangered(left, plot)) {
                    number++;
                }
            }
            return number;
        }

        int doomedPlots(Paths left) {
            int number = 0;
            for (int plot = 0; plot < PLOTS; plot++) {
                if (isDoomed(left, plot)) {
                    number++;
                }
            }
            return number;
        }

        int allStandToLose(Paths left) {
            int sum = 0;
            for (int plot = 0; plot < PLOTS; plot++) {
                sum += standsToLose(left, plot);
            }
            return sum;
        }

        int felledPlots() {
            int number = 0;
            for (int plot = 0; plot < PLOTS; plot++) {
                if (felled[plot]) {
                    number++;
                }
            }
            return number;
        }

        int hintsTold() {
            int number = 0;
            for (int row = 0; row < ROWS; row++) {
                if (told[row] != NONE) {
                    number++;
                }
            }
            return number;
        }

        int savedByAll() {
            int sum = 0;
            for (int crew = 0; crew < CREWS; crew++) {
                sum += saved[crew];
            }
            return sum;
        }
    }

    /** How many paths are left, counted plot by plot without going along each of them. */
    private static final class Paths {
        // The parts of paths from the first row down to a plot, and from it down to the last row.
        private final int[] above = new int[PLOTS];
        private final int[] below = new int[PLOTS];
        private int all;

        void follow(int[] told) {
            for (int plot = 0; plot < PLOTS; plot++) {
                if (!isOpen(told, plot)) {
                    above[plot] = 0;
                } else if (plot < COLUMNS) {
                    above[plot] = 1;
                } else {
                    above[plot] = around(above, plot - COLUMNS);
                }
            }
            for (int plot = PLOTS - 1; plot >= 0; plot--) {
                if (!isOpen(told, plot)) {
                    below[plot] = 0;
                } else if (plot >= PLOTS - COLUMNS) {
                    below[plot] = 1;
                } else {
                    below[plot] = around(below, plot + COLUMNS);
                }
            }
            all = 0;
            for (int column = 0; column < COLUMNS; column++) {
                all += below[column];
            }
        }

        private static boolean isOpen(int[] told, int plot) {
            int column = told[plot / COLUMNS];
            return column == NONE || column == plot % COLUMNS;
        }

        private static int around(int[] parts, int plot) {
            int sum = parts[plot];
            if (plot % COLUMNS > 0) {
                sum += parts[plot - 1];
            }
            if (plot % COLUMNS < COLUMNS - 1) {
                sum += parts[plot + 1];
            }
            return sum;
        }

        int through(int plot) {
            return above[plot] * below[plot];
        }

        /** The paths that come as near to a plot, in its row, as the reach tells. */
        int within(int plot, int reach) {
            int rowStart = plot - plot % COLUMNS;
            int first = Math.max(rowStart, plot - reach);
            int last = Math.min(rowStart + COLUMNS - 1, plot + reach);
            int sum = 0;
            for (int near = first; near <= last; near++) {
                sum += through(near);
            }
            return sum;
        }

        int leastColumn(int row) {
            int column = 0;
            while (column < COLUMNS - 1 && through(row * COLUMNS + column) == 0) {
                column++;
            }
            return column;
        }

        int greatestColumn(int row) {
            int column = COLUMNS - 1;
            while (column > 0 && through(row * COLUMNS + column) == 0) {
                column--;
            }
            return column;
        }

        int mostOpenRow() {
            if (all <= 1) {
                return NONE;
            }
            int found = 0;
            for (int row = 1; row < ROWS; row++) {
                if (openColumns(row) > openColumns(found)) {
                    found = row;
                }
            }
            return found;
        }

        private int openColumns(int row) {
            int number = 0;
            for (int column = 0; column < COLUMNS; column++) {
                if (through(row * COLUMNS + column) > 0) {
                    number++;
                }
            }
            return number;
        }
    }

    /** The text of days, and the thing of it that was read last. */
    private static final class Days {
        private final char[] signs = new char[LONGEST_TEXT];
        private int length;
        private int at;
        private char kind;
        private int first;
        private int second;

        int append(char sign) {
            if (length >= LONGEST_TEXT) {
                return FULL;
            }
            signs[length] = sign;
            length++;
            return length;
        }

        int empty() {
            int previous = length;
            length = 0;
            return previous;
        }

        /** How many things the text has; FAULT minus the place of its fault if it has one. */
        int countThings() {
            startOver();
            for (int things = 1; things <= LONGEST_TEXT && readThing(); things++) {
                if (at == length) {
                    return things;
                }
                if (!readSign(';')) {
                    break;
                }
            }
            return FAULT - at;
        }

        void startOver() {
            at = 0;
        }

        /** Reads on in a text without a fault: the first thing has no ";" ahead of it. */
        void readNext() {
            readSign(';');
            readThing();
        }

        /** Reads a thing; if there is a fault, it leaves `at` on it. */
        private boolean readThing() {
            if (readKind('t')) {
                return readFirst(0, PLOTS - 1) && readSign('=') && readSecond(MOST_WORTH);
            }
            if (readKind('r')) {
                return readFirst(1, MOST_MUD);
            }
            if (readKind('h')) {
                return readFirst(0, ROWS - 1) && readSign(':') && readSecond(COLUMNS - 1);
            }
            if (readKind('g')) {
                return readFirst(0, CREWS - 1) && readSign('>') && readSecond(PLOTS - 1);
            }
            if (readKind('f')) {
                return readFirst(0, CREWS - 1);
            }
            return readKind('.') && readFirst(1, MOST_DAYS);
        }

        private boolean readKind(char sign) {
            if (!readSign(sign)) {
                return false;
            }
            kind = sign;
            return true;
        }

        private boolean readSign(char sign) {
            if (at >= length || signs[at] != sign) {
                return false;
            }
            at++;
            return true;
        }

        private boolean readFirst(int least, int greatest) {
            first = readNumber(least, greatest);
            return first != NO_DIGIT;
        }

        private boolean readSecond(int greatest) {
            second = readNumber(0, greatest);
            return second != NO_DIGIT;
        }

        /** Reads as many digits as the number may have: two at most, and one behind no zero. */
        private int readNumber(int least, int greatest) {
            int number = digitHere();
            if (!isIn(number, least, greatest)) {
                return NO_DIGIT;
            }
            at++;
            int digit = digitHere();
            if (number == 0 || digit == NO_DIGIT || number * 10 + digit > greatest) {
                return number;
            }
            at++;
            return number * 10 + digit;
        }

        private int digitHere() {
            if (at >= length || signs[at] < '0' || signs[at] > '9') {
                return NO_DIGIT;
            }
            return signs[at] - '0';
        }
    }

    /** The states ahead of the latest acts, the oldest first; their objects are used again. */
    private static final class History {
        private final Wood[] states = new Wood[KEPT_STATES];
        private int size;

        History() {
            for (int index = 0; index < KEPT_STATES; index++) {
                states[index] = new Wood();
            }
        }

        void push(Wood state) {
            if (size >= KEPT_STATES) {
                dropOldest();
            }
            states[size].copyFrom(state);
            size++;
        }

        private void dropOldest() {
            Wood oldest = states[0];
            for (int index = 1; index < KEPT_STATES; index++) {
                states[index - 1] = states[index];
            }
            states[KEPT_STATES - 1] = oldest;
            size = KEPT_STATES - 1;
        }

        /** Brings the latest state back into the wood, if there is one. */
        boolean pop(Wood state) {
            if (size == 0) {
                return false;
            }
            size--;
            state.copyFrom(states[size]);
            return true;
        }
    }
}
