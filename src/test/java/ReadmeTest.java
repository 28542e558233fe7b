import java.io.IOException;
import java.lang.reflect.Method;
import java.nio.file.Files;
import java.nio.file.Path;
import java.util.List;
import java.util.Set;
import java.util.TreeSet;
import java.util.regex.Matcher;
import java.util.regex.Pattern;

/** README.md tells the truth: its example answers as it says, and its table has every call of the face. */
public final class ReadmeTest {
    private static final Check CHECK = new Check("ReadmeTest");
    private static final Pattern CALL = Pattern.compile("page\\.(\\w+)\\((.*?)\\);(?:\\s*// (.*))?");
    private static final Pattern ANSWER = Pattern.compile("(-?\\d+|'.'|true|false)(?:\\W.*)?");
    private static final Pattern TEXT = Pattern.compile(".*the text is \"(.*?)\".*");

    private static final Set<String> ANSWERED = new TreeSet<>();
    private static int texts = 0;

    /** README.md is looked for where the test is run, or at the path that is given. */
    public static void main(String[] args) throws IOException, ReflectiveOperationException {
        List<String> readme = Files.readAllLines(Path.of(args.length > 0 ? args[0] : "README.md"));
        example(readme);
        table(readme);
        CHECK.end();
    }

    private static void example(List<String> readme) throws ReflectiveOperationException {
        TextOrder page = new TextOrder();
        for (String row : readme) {
            Matcher call = CALL.matcher(row);
            if (call.matches()) {
                make(page, call.group(1), call.group(2), call.group(3) == null ? "" : call.group(3));
            }
        }
        CHECK.due("calls of the example with an answer", ANSWERED.toString(), namesOfTheFace().toString());
        CHECK.due("texts in the example", texts, 3);
    }

    private static void make(TextOrder page, String name, String arguments, String comment)
            throws ReflectiveOperationException {
        Method method = methodOf(name);
        Object got = method.invoke(page, valuesOf(method.getParameterTypes(), arguments));
        Matcher answer = ANSWER.matcher(comment);
        if (answer.matches()) {
            ANSWERED.add(name);
            CHECK.due(name + "(" + arguments + ")", got.toString(), valueOf(answer.group(1)));
        }
        Matcher text = TEXT.matcher(comment);
        if (text.matches()) {
            texts++;
            CHECK.due("the text", Pages.text(page), text.group(1).replace("\\n", "|").replace(' ', '_'));
        }
    }

    private static Object[] valuesOf(Class<?>[] types, String arguments) {
        String[] words = arguments.isEmpty() ? new String[0] : arguments.split(", ");
        Object[] values = new Object[types.length];
        CHECK.due("arguments of (" + arguments + ")", words.length, types.length);
        for (int i = 0; i < types.length; i++) {
            String value = valueOf(words[i]);
            if (types[i] == boolean.class) {
                values[i] = Boolean.valueOf(value);
            } else if (types[i] == long.class) {
                values[i] = Long.valueOf(value);
            } else {
                values[i] = Integer.valueOf(value);
            }
        }
        return values;
    }

    private static String valueOf(String word) {
        return word.startsWith("'") ? Integer.toString(word.charAt(1)) : word;
    }

    private static Method methodOf(String name) throws NoSuchMethodException {
        for (Method method : TextOrder.class.getMethods()) {
            if (method.getName().equals(name)) {
                return method;
            }
        }
        throw new NoSuchMethodException(name);
    }

    private static Set<String> namesOfTheFace() {
        Set<String> names = new TreeSet<>();
        for (Method method : TextOrder.class.getMethods()) {
            if (method.getDeclaringClass() == TextOrder.class) {
                names.add(method.getName());
            }
        }
        return names;
    }

    private static void table(List<String> readme) throws NoSuchMethodException {
        for (String name : namesOfTheFace()) {
            Method method = methodOf(name);
            String begin = "| `" + method.getReturnType() + " " + name + "(";
            List<String> rows = readme.stream().filter(row -> row.startsWith(begin)).toList();
            CHECK.due("rows of " + name + " in the table", rows.size(), 1);
            CHECK.due("exceptions of " + name + " in the table",
                    rows.isEmpty() ? "" : exceptionsIn(rows.get(0)), exceptionsOf(method));
        }
    }

    private static String exceptionsIn(String row) {
        StringBuilder names = new StringBuilder();
        Matcher name = Pattern.compile("\\w+Exception").matcher(row);
        while (name.find()) {
            names.append(name.group()).append(' ');
        }
        return names.toString();
    }

    private static String exceptionsOf(Method method) {
        StringBuilder names = new StringBuilder();
        for (Class<?> type : method.getExceptionTypes()) {
            names.append(type.getSimpleName()).append(' ');
        }
        return names.toString();
    }
}
