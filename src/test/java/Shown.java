import java.util.ArrayList;
import java.util.List;
import java.util.function.Supplier;
import java.util.function.ToIntFunction;

/** All that any call shows of an object: now, and behind undo(), restore() and perform(). */
final class Shown {
    private static final int MOST_CALLS = 512;
    private static final List<String> NAMES = new ArrayList<>();
    private static final List<ToIntFunction<StormFelling>> QUESTIONS = new ArrayList<>();
    private static final List<List<ToIntFunction<StormFelling>>> LEADS = List.of(
            List.of(),
            List.of(StormFelling::undo),
            List.of(StormFelling::undo, StormFelling::undo),
            List.of(StormFelling::undo, StormFelling::undo, StormFelling::undo),
            List.of(StormFelling::undo, StormFelling::undo, StormFelling::undo, StormFelling::undo),
            List.of(StormFelling::restore),
            List.of(StormFelling::perform));
    private static final String[] MOMENTS = {
        "now", "behind undo()", "behind undo() twice", "behind undo() three times",
        "behind undo() four times", "behind restore()", "behind perform()"};
    private static final int SHOWN_ONCE;

    private interface TwoNumbers {
        int ask(StormFelling woods, int first, int second);
    }

    static {
        for (int number = 0; number <= 16; number++) {
            int what = number;
            add("count(" + what + ")", woods -> woods.count(what));
        }
        add("openRow()", StormFelling::openRow);
        add("stopped(0)", woods -> woods.stopped(0));
        add("stopped(1)", woods -> woods.stopped(1));
        addAll("plot", 64, 7, StormFelling::plot);
        addAll("row", 8, 3, StormFelling::row);
        addAll("ifTold", 8, 8, StormFelling::ifTold);
        addAll("crew", 3, 4, StormFelling::crew);
        addAll("way", 3, 64, StormFelling::way);
        addAll("reason", 3, 64, StormFelling::reason);
        addAll("best", 3, 1, (woods, crew, none) -> woods.best(crew));
        SHOWN_ONCE = QUESTIONS.size() + 1;
    }

    private Shown() {
    }

    private static void add(String name, ToIntFunction<StormFelling> question) {
        NAMES.add(name);
        QUESTIONS.add(question);
    }

    private static void addAll(String name, int firsts, int seconds, TwoNumbers question) {
        for (int index = 0; index < firsts * seconds; index++) {
            int first = index / seconds;
            int second = index % seconds;
            add(name + "(" + first + ", " + second + ")",
                    woods -> question.ask(woods, first, second));
        }
    }

    /** The answers at each moment; the maker makes an object by as many calls as it is told. */
    static int[] all(int callsOfMaker, Supplier<StormFelling> maker) {
        int[] answers = new int[LEADS.size() * SHOWN_ONCE];
        for (int moment = 0; moment < LEADS.size(); moment++) {
            int most = MOST_CALLS - callsOfMaker - LEADS.get(moment).size();
            if (most < 1) {
                throw new IllegalStateException("the run is too long for a look at all");
            }
            for (int begin = 0; begin < QUESTIONS.size(); begin += most) {
                StormFelling woods = maker.get();
                int start = moment * SHOWN_ONCE;
                for (ToIntFunction<StormFelling> call : LEADS.get(moment)) {
                    answers[start] = call.applyAsInt(woods);
                }
                int end = Math.min(begin + most, QUESTIONS.size());
                for (int index = begin; index < end; index++) {
                    answers[start + 1 + index] = QUESTIONS.get(index).applyAsInt(woods);
                }
            }
        }
        return answers;
    }

    static String name(int index) {
        int question = index % SHOWN_ONCE - 1;
        return (question < 0 ? "its answer" : NAMES.get(question)) + " "
                + MOMENTS[index / SHOWN_ONCE];
    }

    static boolean isOfTheStop(int index) {
        return name(index).startsWith("stopped");
    }
}
