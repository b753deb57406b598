import java.lang.reflect.Method;
import java.util.ArrayList;
import java.util.Arrays;
import java.util.HashMap;
import java.util.List;
import java.util.Map;
import java.util.regex.Matcher;
import java.util.regex.Pattern;

/**
 * Plays a run of calls on a new object, written one a row: "grow(0, 99) = 0".
 *
 * <p>A row without "= answer" is only on the way: it must not be refused. "5 x rain(1)" is the call
 * five times; "hint(0..7, 3)" is a call for each number from 0 to 7; "text t0=5" empties the text
 * and types what stands behind the first blank. SlowWood plays along, so that an answer that is due
 * has been thought of twice. Behind each call that is refused, or answers NONE, all that any other
 * call shows must be as it would be without it.
 */
final class Script {
    private static final Pattern ROW = Pattern.compile("(?:(\\d+) x )?(\\w+)\\((.*)\\)(?: = (\\S+))?");
    private static final Pattern RANGE = Pattern.compile("(-?\\d+)\\.\\.(-?\\d+)");
    private static final List<String> ERRORS =
            Arrays.asList("UNKNOWN", "BAD_VALUE", "FULL", "NOT_POSSIBLE", "NONE");

    /** One call: its name and what it is called with. */
    private static final class Call {
        private static final Map<String, Method> KNOWN = new HashMap<>();
        private final String name;
        private final Object[] with;

        Call(String name, Object... with) {
            this.name = name;
            this.with = with;
        }

        int on(Object woods) {
            try {
                return (Integer) method(woods.getClass()).invoke(woods, with);
            } catch (ReflectiveOperationException fault) {
                throw new IllegalStateException(this + ": " + fault, fault);
            }
        }

        private Method method(Class<?> type) {
            return KNOWN.computeIfAbsent(type.getName() + " " + name, key -> {
                for (Method method : type.getDeclaredMethods()) {
                    if (method.getName().equals(name)
                            && method.getParameterCount() == with.length) {
                        return method;
                    }
                }
                throw new IllegalStateException("there is no " + this);
            });
        }

        @Override
        public String toString() {
            String list = Arrays.toString(with);
            return name + "(" + list.substring(1, list.length() - 1) + ")";
        }
    }

    private final Checks checks;
    private final StormFelling woods = new StormFelling();
    private final SlowWood slow = new SlowWood();
    // The calls that made the state: those that were refused are left out.
    private final List<Call> made = new ArrayList<>();
    private int[] shown;

    Script(Checks checks) {
        this.checks = checks;
    }

    void play(String... rows) {
        for (String row : rows) {
            if (row.startsWith("text ")) {
                type(row.substring(5));
            } else {
                play(row);
            }
        }
    }

    private void type(String signs) {
        step(new Call("clearText"), null, "clearText()");
        for (char sign : signs.toCharArray()) {
            step(new Call("type", sign), null, "type(" + (int) sign + ")");
        }
    }

    private void play(String row) {
        Matcher range = RANGE.matcher(row);
        if (range.find()) {
            int last = Integer.parseInt(range.group(2));
            for (int number = Integer.parseInt(range.group(1)); number <= last; number++) {
                play(row.substring(0, range.start()) + number + row.substring(range.end()));
            }
            return;
        }
        Matcher parts = ROW.matcher(row);
        if (!parts.matches()) {
            checks.fail("what does this row mean: " + row);
            return;
        }
        int times = parts.group(1) == null ? 1 : Integer.parseInt(parts.group(1));
        for (int n = 0; n < times; n++) {
            step(new Call(parts.group(2), values(parts.group(2), parts.group(3))),
                    parts.group(4), row);
        }
    }

    private static Object[] values(String name, String list) {
        if (list.isEmpty()) {
            return new Object[0];
        }
        if (list.length() == 3 && list.charAt(0) == '\'') {
            return new Object[] {list.charAt(1)};
        }
        String[] words = list.split(", ");
        Object[] values = new Object[words.length];
        for (int index = 0; index < words.length; index++) {
            int number = number(words[index]);
            if (name.equals("type")) {
                values[index] = (char) number;
            } else {
                values[index] = number;
            }
        }
        return values;
    }

    private static int number(String word) {
        if (word.equals("least")) {
            return Integer.MIN_VALUE;
        }
        if (word.equals("greatest")) {
            return Integer.MAX_VALUE;
        }
        int error = ERRORS.indexOf(word);
        return error < 0 ? Integer.parseInt(word) : -1 - error;
    }

    private void step(Call call, String due, String row) {
        int[] before = shown;
        int got = call.on(woods);
        int second = call.on(slow);
        if (due != null) {
            checks.due(row, got, number(due));
        } else if (got < 0) {
            checks.fail(row + " was refused with " + got);
        }
        if (got != second) {
            checks.fail(row + " answered " + got + ", SlowWood says " + second);
        }
        if (got < 0) {
            shown = before == null ? allShown(made, null) : before;
            compare(allShown(made, call), call);
        }
        if (got >= 0 || call.name.equals("perform")) {
            made.add(call);
            shown = null;
        }
    }

    private void compare(int[] with, Call refused) {
        for (int index = 0; index < shown.length; index++) {
            boolean free = refused.name.equals("perform") && Shown.isOfTheStop(index);
            if (shown[index] != with[index] && !free) {
                checks.fail(refused + " was refused, but " + Shown.name(index) + " is "
                        + with[index] + " then, not " + shown[index]);
                return;
            }
        }
    }

    /** Each part is asked of an object of its own: one is good for 512 calls alone. */
    private static int[] allShown(List<Call> made, Call refused) {
        return Shown.all(made.size() + 1, () -> {
            StormFelling woods = new StormFelling();
            for (Call call : made) {
                call.on(woods);
            }
            if (refused != null) {
                refused.on(woods);
            }
            return woods;
        });
    }
}
