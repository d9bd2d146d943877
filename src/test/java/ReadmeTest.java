import java.io.IOException;
import java.lang.reflect.InvocationTargetException;
import java.lang.reflect.Method;
import java.nio.file.Files;
import java.nio.file.Path;
import java.util.regex.Matcher;
import java.util.regex.Pattern;

/** The run of calls in README.md: each call of a line is answered as the line's end says. */
public final class ReadmeTest {
    private static final Pattern CALL = Pattern.compile("book\\.(\\w+)\\(([^)]*)\\);");
    private static final Pattern ANSWER = Pattern.compile("// (true|false|-?\\d+)");
    private static int calls = 0;
    private static int wrong = 0;

    private static Object value(String text, Class<?> type) {
        if (text.equals("BirdBook.NONE")) {
            return BirdBook.NONE;
        }
        if (type == float.class) {
            return Float.valueOf(text);
        }
        return type == long.class ? (Object) Long.valueOf(text) : (Object) Integer.valueOf(text);
    }

    private static String answer(BirdBook book, String name, String arguments)
            throws IllegalAccessException, InvocationTargetException {
        String[] texts = arguments.isEmpty() ? new String[0] : arguments.split(", ");
        for (Method method : BirdBook.class.getMethods()) {
            Class<?>[] types = method.getParameterTypes();
            if (method.getName().equals(name) && types.length == texts.length) {
                Object[] values = new Object[texts.length];
                for (int i = 0; i < texts.length; i++) {
                    values[i] = value(texts[i], types[i]);
                }
                return String.valueOf(method.invoke(book, values));
            }
        }
        return "nothing, as there is no such call";
    }

    private static void checkLine(BirdBook book, String line) throws IllegalAccessException, InvocationTargetException {
        Matcher told = ANSWER.matcher(line);
        Matcher call = CALL.matcher(line);
        while (call.find()) {
            calls++;
            String got = answer(book, call.group(1), call.group(2));
            String want = told.find(0) ? told.group(1) : "not told";
            if (!got.equals(want)) {
                wrong++;
                System.out.println("README.md: " + call.group() + " answered " + got + ", told is " + want);
            }
        }
    }

    public static void main(String[] args)
            throws IOException, IllegalAccessException, InvocationTargetException {
        BirdBook book = new BirdBook();
        for (String line : Files.readAllLines(Path.of("README.md"))) {
            checkLine(book, line);
        }
        if (calls < 20) {
            wrong++;
            System.out.println("README.md has only " + calls + " calls");
        }
        System.out.println(wrong == 0 ? "the run of README.md is as told" : wrong + " calls are not as told");
        if (wrong != 0) {
            System.exit(1);
        }
    }
}
