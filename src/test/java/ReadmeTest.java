import java.io.IOException;
import java.lang.reflect.InvocationTargetException;
import java.lang.reflect.Method;
import java.nio.file.Files;
import java.nio.file.Path;
import java.util.regex.Matcher;
import java.util.regex.Pattern;

/** The calls in README.md answer what is written behind them; where no answer is written, they are made. */
public final class ReadmeTest {
    private static final Pattern CALL = Pattern.compile("x\\.(\\w+)\\(([^)]*)\\);\\s*// (.*)");
    private static final Pattern ANSWER = Pattern.compile("(-?\\d+|true|false|\\w+Exception): .*");

    public static void main(String[] args) throws IOException {
        FoldLaboratory x = new FoldLaboratory();
        int calls = 0;
        int answers = 0;
        for (String line : Files.readAllLines(Path.of("README.md"))) {
            Matcher call = CALL.matcher(line);
            if (call.matches()) {
                String got = answer(x, call.group(1), call.group(2));
                Matcher answer = ANSWER.matcher(call.group(3));
                if (answer.matches()) {
                    answers++;
                    Checks.due(line + ", got " + got, true, got.equals(answer.group(1)));
                } else {
                    Checks.due(line + ", got " + got, false, got.endsWith("Exception"));
                }
                calls++;
            }
        }
        Checks.due("README.md has calls with answers, and no more than one without: " + calls + ", " + answers, true,
                answers > 0 && calls - answers <= 1);
        Checks.end();
    }

    private static String answer(FoldLaboratory x, String name, String numbers) {
        String[] texts = numbers.isEmpty() ? new String[0] : numbers.split(", ");
        Object[] given = new Object[texts.length];
        Class<?>[] kinds = new Class<?>[texts.length];
        for (int i = 0; i < texts.length; i++) {
            given[i] = texts[i].startsWith("'") ? texts[i].charAt(1) : Integer.parseInt(texts[i]);
            kinds[i] = int.class;
        }
        try {
            Method method = FoldLaboratory.class.getMethod(name, kinds);
            return "" + method.invoke(x, given);
        } catch (InvocationTargetException e) {
            return e.getCause().getClass().getSimpleName();
        } catch (ReflectiveOperationException e) {
            return "no such call";
        }
    }
}
