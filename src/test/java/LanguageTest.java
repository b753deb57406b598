import java.io.IOException;
import java.lang.reflect.Constructor;
import java.lang.reflect.Field;
import java.lang.reflect.Method;
import java.lang.reflect.Modifier;
import java.nio.charset.StandardCharsets;
import java.nio.file.Files;
import java.nio.file.Path;
import java.util.ArrayList;
import java.util.Arrays;
import java.util.List;
import java.util.TreeSet;
import java.util.regex.Matcher;
import java.util.regex.Pattern;

/** The face of the class, and the rules of ../shared/LANGUAGE.md that can be seen from outside. */
public final class LanguageTest {
    private static final Checks CHECKS = new Checks();
    private static final String[] FACE = {
        "int grow(int,int)", "int rain(int)", "int endDays(int)", "int set(int,int)",
        "int go(int,int)", "int fell(int)", "int hint(int,int)", "int takeBack(int)",
        "int storm()", "int type(char)", "int clearText()", "int perform()", "int stopped(int)",
        "int undo()", "int keep()", "int restore()", "int plot(int,int)", "int crew(int,int)",
        "int row(int,int)", "int way(int,int)", "int reason(int,int)", "int best(int)",
        "int openRow()", "int ifTold(int,int)", "int count(int)"};
    private static final String[] CONSTANTS = {
        "UNKNOWN", "BAD_VALUE", "FULL", "NOT_POSSIBLE", "NONE"};
    private static final String[] FORBIDDEN = {
        "throw", "throws", "try", "catch", "finally", "synchronized", "assert", "import",
        "package", "protected", "native", "volatile", "transient", "->", "::", "instanceof",
        "equals", "hashCode", "toString", "System.out", "Exact", "this"};

    public static void main(String[] arguments) throws IOException {
        Path file = Path.of(arguments.length > 0 ? arguments[0] : "src/main/java/StormFelling.java");
        String source = Files.readString(file, StandardCharsets.US_ASCII);
        CHECKS.test("the face", LanguageTest::face);
        CHECKS.test("the constants", LanguageTest::constants);
        CHECKS.test("no other member can be seen", LanguageTest::hidden);
        CHECKS.test("classes inside", LanguageTest::inside);
        CHECKS.test("no static state", LanguageTest::staticFields);
        CHECKS.test("fields are of the types that are left", LanguageTest::fieldTypes);
        CHECKS.test("forbidden words", () -> words(source));
        CHECKS.test("methods are short", () -> lengths(source));
        CHECKS.test("objects are made in constructors alone", () -> madeObjects(source));
        CHECKS.end();
    }

    private static List<Class<?>> classes() {
        List<Class<?>> all = new ArrayList<>(Arrays.asList(StormFelling.class.getDeclaredClasses()));
        all.add(StormFelling.class);
        return all;
    }

    private static void face() {
        TreeSet<String> found = new TreeSet<>();
        for (Method method : StormFelling.class.getDeclaredMethods()) {
            if (Modifier.isPublic(method.getModifiers())) {
                StringBuilder text = new StringBuilder();
                for (Class<?> type : method.getParameterTypes()) {
                    text.append(text.length() == 0 ? "" : ",").append(type.getName());
                }
                found.add(method.getReturnType().getName() + " " + method.getName()
                        + "(" + text + ")");
            }
        }
        if (!found.equals(new TreeSet<>(Arrays.asList(FACE)))) {
            CHECKS.fail("the public methods are " + found);
        }
        int modifiers = StormFelling.class.getModifiers();
        CHECKS.due("final", Modifier.isFinal(modifiers) ? 1 : 0, 1);
        Constructor<?>[] constructors = StormFelling.class.getDeclaredConstructors();
        CHECKS.due("constructors", constructors.length, 1);
        CHECKS.due("public", Modifier.isPublic(constructors[0].getModifiers()) ? 1 : 0, 1);
        CHECKS.due("parameters", constructors[0].getParameterCount(), 0);
    }

    private static void constants() {
        TreeSet<String> constants = new TreeSet<>();
        for (Field field : StormFelling.class.getFields()) {
            constants.add(field.getName());
        }
        if (!constants.equals(new TreeSet<>(Arrays.asList(CONSTANTS)))) {
            CHECKS.fail("the public fields are " + constants);
            return;
        }
        for (int index = 0; index < CONSTANTS.length; index++) {
            try {
                Field field = StormFelling.class.getField(CONSTANTS[index]);
                int modifiers = Modifier.PUBLIC | Modifier.STATIC | Modifier.FINAL;
                CHECKS.due("modifiers of " + CONSTANTS[index], field.getModifiers(), modifiers);
                CHECKS.due("int", field.getType() == int.class ? 1 : 0, 1);
                CHECKS.due(CONSTANTS[index], field.getInt(null), -1 - index);
            } catch (ReflectiveOperationException fault) {
                CHECKS.fail(CONSTANTS[index] + ": " + fault);
            }
        }
    }

    private static void hidden() {
        TreeSet<String> publicNames = publicNames();
        for (Method method : StormFelling.class.getDeclaredMethods()) {
            int modifiers = method.getModifiers();
            if (!Modifier.isPublic(modifiers) && !Modifier.isPrivate(modifiers)) {
                CHECKS.fail("the method " + method.getName() + " is not private");
            }
            if (Modifier.isPrivate(modifiers) && publicNames.contains(method.getName())) {
                CHECKS.fail("a private method has the public name " + method.getName());
            }
        }
        for (Field field : StormFelling.class.getDeclaredFields()) {
            int modifiers = field.getModifiers();
            if (!Modifier.isPublic(modifiers) && !Modifier.isPrivate(modifiers)) {
                CHECKS.fail("the field " + field.getName() + " is not private");
            }
        }
    }

    private static TreeSet<String> publicNames() {
        TreeSet<String> publicNames = new TreeSet<>();
        for (String method : FACE) {
            publicNames.add(method.substring(4, method.indexOf('(')));
        }
        return publicNames;
    }

    private static void inside() {
        TreeSet<String> publicNames = publicNames();
        for (Class<?> type : StormFelling.class.getDeclaredClasses()) {
            int modifiers = type.getModifiers();
            if (!Modifier.isStatic(modifiers) || Modifier.isPublic(modifiers)) {
                CHECKS.fail(type + " is not static or not hidden");
            }
            if (type.getDeclaredClasses().length > 0) {
                CHECKS.fail(type + " has classes inside");
            }
            for (Method method : type.getDeclaredMethods()) {
                if (publicNames.contains(method.getName())) {
                    CHECKS.fail(type + " has a method with the public name " + method.getName());
                }
                if (method.getParameterCount() > 7) {
                    CHECKS.fail(type + "." + method.getName() + " has too many parameters");
                }
            }
        }
        if (classes().size() > 12) {
            CHECKS.fail(classes().size() + " classes");
        }
    }

    private static void staticFields() {
        for (Class<?> type : classes()) {
            int held = 0;
            for (Field field : type.getDeclaredFields()) {
                int modifiers = field.getModifiers();
                if (!Modifier.isStatic(modifiers)) {
                    held++;
                } else if (!Modifier.isFinal(modifiers)) {
                    CHECKS.fail("the static field " + field.getName() + " is not final");
                }
            }
            if (held > 20) {
                CHECKS.fail(type + " has " + held + " fields");
            }
        }
    }

    private static void fieldTypes() {
        List<Class<?>> fixed = List.of(int.class, long.class, boolean.class, char.class,
                String.class, int[].class, long[].class, char[].class, byte[].class);
        List<Class<?>> kept = new ArrayList<>(classes());
        for (Class<?> type : classes()) {
            kept.add(type.arrayType());
        }
        kept.addAll(fixed);
        kept.add(boolean[].class);
        for (Class<?> type : classes()) {
            for (Field field : type.getDeclaredFields()) {
                boolean isStatic = Modifier.isStatic(field.getModifiers());
                if (!(isStatic ? fixed : kept).contains(field.getType())) {
                    CHECKS.fail("the field " + field + " has a type that is not left");
                }
            }
        }
    }

    private static String codeOf(String source) {
        return source.replaceAll("(?s)/\\*.*?\\*/", "").replaceAll("//[^\n]*", "");
    }

    /** All calls of a run live in one room: no call makes an object. */
    private static void madeObjects(String source) {
        boolean inConstructor = false;
        for (String line : codeOf(source).split("\n")) {
            if (line.matches(" {4}( {4})?\\S.*\\{")) {
                inConstructor = line.matches(" +(public )?[A-Z]\\w*\\(\\) \\{");
            }
            boolean isField = line.matches(" {4}( {4})?private final .* = new .*;");
            if (line.matches(".*\\bnew\\b.*") && !isField && !inConstructor) {
                CHECKS.fail("an object is made by a call: " + line.trim());
            }
            if (line.contains("\"")) {
                CHECKS.fail("a text is made: " + line.trim());
            }
        }
    }

    private static void words(String source) {
        String code = codeOf(source);
        for (String word : FORBIDDEN) {
            boolean letters = Character.isLetter(word.charAt(0));
            String pattern = Pattern.quote(word);
            if (letters && !word.equals("Exact")) {
                pattern = "\\b" + pattern + "\\b";
            }
            if (Pattern.compile(pattern).matcher(code).find()) {
                CHECKS.fail("the program uses " + word);
            }
        }
        Matcher library = Pattern.compile("\\b(Math|System|Arrays|Integer|Long)\\.(\\w+)").matcher(code);
        while (library.find()) {
            if (!library.group().matches("Math\\.(max|min|abs)|System\\.arraycopy")) {
                CHECKS.fail("the program uses " + library.group());
            }
        }
    }

    private static void lengths(String source) {
        int begin = 0;
        String[] lines = source.split("\n");
        for (int index = 0; index < lines.length; index++) {
            String line = lines[index];
            if (line.matches(" {4}( {4})?[a-z].*\\) \\{")) {
                begin = index;
            }
            if (line.matches(" {4}( {4})?\\}") && index - begin > 60 && begin > 0
                    && lines[begin].indexOf(lines[begin].trim()) == line.indexOf('}')) {
                CHECKS.fail("too long: " + lines[begin].trim());
            }
            if (line.length() > 100) {
                CHECKS.fail("the line " + (index + 1) + " is too wide");
            }
        }
    }
}
