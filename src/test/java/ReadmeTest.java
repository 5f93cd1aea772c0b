import java.io.IOException;
import java.lang.reflect.Method;
import java.lang.reflect.Modifier;
import java.nio.charset.StandardCharsets;
import java.nio.file.Files;
import java.nio.file.Path;
import java.util.HashMap;
import java.util.Map;
import java.util.Set;
import java.util.TreeSet;
import java.util.regex.Matcher;
import java.util.regex.Pattern;

/**
 * README.md: does the calls of each of its examples on an object of its own, and compares their answers with those that
 * README.md gives; every public method is in an example; every sentence of the document is there in its words.
 *
 * <p>A line of an example that this test can not read is a fault: else a call could stand there that nobody does.
 */
public final class ReadmeTest {
    private static final String FENCE = "```";
    private static final int MOST_CALLS = 512;
    private static final Pattern NEW = Pattern.compile("FieldsByClasses x = new FieldsByClasses\\(\\);");
    private static final Pattern CONSTANT = Pattern.compile("int (\\w+) = FieldsByClasses\\.NONE; *// (-?\\d+)(?:: .+)?");
    private static final Pattern CALL =
        Pattern.compile("(?:(int|long|boolean) (\\w+) = )?x\\.(\\w+)\\(([^()]*)\\);(?: *// ([^ :]+)(?:: .+)?)?");

    private static int wrong = 0;
    private static int examples = 0;
    private static int answers = 0;
    private static final Set<String> shown = new TreeSet<>();

    /** What one example has come to. */
    private static FieldsByClasses object;
    private static int calls;
    private static final Map<String, Object> names = new HashMap<>();

    public static void main(String[] args) throws IOException {
        failAfter(60);
        Path readme = Path.of(System.getProperty("readme", "README.md"));
        Path document = Path.of(System.getProperty("document", "../shared/DOC.md"));
        String text = Files.readString(readme, StandardCharsets.UTF_8);
        examples(text);
        everyMethodIsShown();
        if (Files.isRegularFile(document)) {
            sentences(Files.readString(document, StandardCharsets.UTF_8), text);
        } else {
            System.out.println("no document at " + document + ": its sentences are not looked for");
        }
        System.out.println(wrong == 0 ? examples + " examples of README.md with " + answers + " answers are so"
            : wrong + " faults in README.md");
        if (wrong != 0) {
            System.exit(1);
        }
    }

    /** A call that does not end must fail the test, not hold it up. */
    private static void failAfter(int seconds) {
        Thread guard = new Thread(() -> {
            try {
                Thread.sleep(1000L * seconds);
            } catch (InterruptedException e) {
                return;
            }
            System.out.println("not at an end after " + seconds + " seconds");
            Runtime.getRuntime().halt(1);
        });
        guard.setDaemon(true);
        guard.start();
    }

    private static void fault(int line, String what) {
        wrong++;
        System.out.println((line > 0 ? "README.md, line " + line + ": " : "README.md: ") + what);
    }

    private static void examples(String text) {
        boolean inside = false;
        int number = 0;
        for (String line : text.split("\n", -1)) {
            number++;
            String trimmed = line.trim();
            if (trimmed.startsWith(FENCE)) {
                inside = !inside;
                if (inside) {
                    begin(trimmed, number);
                } else if (calls == 0) {
                    fault(number, "an example without a call");
                }
            } else if (inside && !trimmed.isEmpty()) {
                line(trimmed, number);
            } else if (!inside && trimmed.startsWith("x.")) {
                fault(number, "a call outside of an example");
            }
        }
        if (inside) {
            fault(number, "an example does not end");
        }
        if (examples == 0) {
            fault(0, "there is no example");
        }
    }

    private static void begin(String fence, int number) {
        if (!fence.equals(FENCE + "java")) {
            fault(number, "not marked as java: " + fence);
        }
        examples++;
        object = null;
        calls = 0;
        names.clear();
    }

    private static void line(String text, int number) {
        Matcher constant = CONSTANT.matcher(text);
        Matcher call = CALL.matcher(text);
        if (NEW.matcher(text).matches()) {
            if (object != null) {
                fault(number, "a second object");
            }
            object = new FieldsByClasses();
        } else if (constant.matches()) {
            name(constant.group(1), FieldsByClasses.NONE, number);
            compare(text, FieldsByClasses.NONE, constant.group(2), number);
        } else if (!call.matches()) {
            fault(number, "can not be read: " + text);
        } else if (object == null) {
            fault(number, "no object yet: " + text);
        } else {
            call(call, number);
        }
    }

    private static void call(Matcher call, int number) {
        calls++;
        if (calls > MOST_CALLS) {
            fault(number, "more than " + MOST_CALLS + " calls");
        }
        Method method = methodOf(call.group(3));
        if (method == null) {
            fault(number, "there is no call " + call.group(3));
            return;
        }
        Object[] values = valuesOf(method, call.group(4), number);
        if (values == null) {
            return;
        }
        shown.add(method.getName());
        Object got;
        try {
            got = method.invoke(object, values);
        } catch (ReflectiveOperationException e) {
            fault(number, call.group() + " can not be done or throws: " + e + ", " + e.getCause());
            return;
        }
        if (call.group(2) != null) {
            if (!method.getReturnType().getName().equals(call.group(1))) {
                fault(number, method.getName() + " answers " + method.getReturnType() + ", not " + call.group(1));
            }
            name(call.group(2), got, number);
        }
        boolean answersNothing = method.getReturnType() == void.class;
        if (answersNothing != (call.group(5) == null)) {
            fault(number, answersNothing ? "it answers nothing: " + call.group() : "no answer is given: " + call.group());
        } else if (!answersNothing) {
            compare(call.group(), got, call.group(5), number);
        }
    }

    private static void compare(String call, Object got, String given, int number) {
        answers++;
        boolean isNone = given.equals("NONE") && got instanceof Integer && (Integer) got == FieldsByClasses.NONE;
        if (!isNone && !String.valueOf(got).equals(given)) {
            fault(number, call + " is answered with " + got);
        }
    }

    private static void name(String name, Object value, int number) {
        if (name.equals("x") || names.put(name, value) != null) {
            fault(number, "named twice: " + name);
        }
    }

    private static Method methodOf(String name) {
        for (Method method : FieldsByClasses.class.getDeclaredMethods()) {
            if (Modifier.isPublic(method.getModifiers()) && method.getName().equals(name)) {
                return method;
            }
        }
        return null;
    }

    /** The arguments as the method takes them; null, and a fault, if they are not such. */
    private static Object[] valuesOf(Method method, String text, int number) {
        String[] parts = text.isEmpty() ? new String[0] : text.split(", ", -1);
        Class<?>[] types = method.getParameterTypes();
        if (parts.length != types.length) {
            fault(number, method.getName() + " takes " + types.length + " arguments, not " + parts.length);
            return null;
        }
        Object[] values = new Object[parts.length];
        for (int i = 0; i < parts.length; i++) {
            values[i] = valueOf(parts[i], types[i]);
            if (values[i] == null) {
                fault(number, "no " + types[i] + ": " + parts[i]);
                return null;
            }
        }
        return values;
    }

    private static Object valueOf(String text, Class<?> type) {
        Object value = names.get(text);
        try {
            if (text.matches("-?\\d+L")) {
                value = Long.valueOf(text.substring(0, text.length() - 1));
            } else if (text.matches("-?\\d+")) {
                value = Integer.valueOf(text);
            }
        } catch (NumberFormatException e) {
            return null;
        }
        if (type == long.class && value instanceof Integer) {
            return ((Integer) value).longValue();
        }
        boolean fits = type == int.class && value instanceof Integer || type == long.class && value instanceof Long;
        return fits ? value : null;
    }

    private static void everyMethodIsShown() {
        for (Method method : FieldsByClasses.class.getDeclaredMethods()) {
            if (Modifier.isPublic(method.getModifiers()) && !shown.contains(method.getName())) {
                fault(0, "in no example: " + method.getName());
            }
        }
    }

    /** Every line of the document, but for headings and the face, whose methods stand in the promises once more. */
    private static void sentences(String document, String readme) {
        String page = " " + evened(readme) + " ";
        boolean isFace = false;
        int looked = 0;
        for (String line : document.split("\n")) {
            String sentence = evened(line);
            if (sentence.startsWith(FENCE)) {
                isFace = sentence.equals(FENCE + "java");
            } else if (!isFace && !sentence.isEmpty() && !sentence.startsWith("#")) {
                looked++;
                if (!page.contains(" " + sentence + " ")) {
                    fault(0, "not in the document's words: " + sentence);
                }
            }
        }
        if (looked == 0) {
            fault(0, "the document has no sentence");
        }
    }

    /** Line ends and rows of blanks are one blank. */
    private static String evened(String text) {
        return text.trim().replaceAll("\\s+", " ");
    }
}
