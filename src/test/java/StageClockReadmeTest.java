import java.io.IOException;
import java.lang.reflect.InvocationTargetException;
import java.lang.reflect.Method;
import java.nio.file.Files;
import java.nio.file.Path;
import java.util.regex.Matcher;
import java.util.regex.Pattern;

/** The calls of README.md, made one behind the other on one object, answer what stands behind them. */
public final class StageClockReadmeTest {
    private static final Pattern CALL = Pattern.compile("^clock\\.(\\w+)\\((.*)\\); *// (.*)$", Pattern.MULTILINE);
    private static final Pattern ANSWER = Pattern.compile("^(-?\\d+|\\w+Exception): .*");

    public static void main(String[] args) throws IOException, IllegalAccessException {
        StageClock clock = new StageClock();
        Matcher row = CALL.matcher(Files.readString(Path.of("README.md")));
        int rows = 0;
        while (row.find()) {
            rows++;
            String got = answer(clock, methodNamed(row.group(1)), row.group(2).split(", "));
            Check.due(row.group(), got, told(row.group(3)));
        }
        Check.due("README.md has calls", rows > 0, true);
        Check.end("all calls of README.md answer as it says");
    }

    /** What a row says of a call that answers nothing is in words alone. */
    private static String told(String comment) {
        Matcher answer = ANSWER.matcher(comment);
        return answer.matches() ? answer.group(1) : "nothing";
    }

    private static Method methodNamed(String name) {
        for (Method method : StageClock.class.getMethods()) {
            if (method.getName().equals(name)) {
                return method;
            }
        }
        throw new IllegalStateException("README.md calls " + name + ", which the class has not");
    }

    private static String answer(StageClock clock, Method method, String[] written) throws IllegalAccessException {
        Object[] values = new Object[written.length];
        for (int i = 0; i < values.length; i++) {
            values[i] = value(written[i]);
        }
        try {
            Object answer = method.invoke(clock, values);
            return answer == null ? "nothing" : answer.toString();
        } catch (InvocationTargetException e) {
            return e.getCause().getClass().getSimpleName();
        }
    }

    /** true, false, a number, or a bit written as 1 << number. */
    private static Object value(String written) {
        if (written.equals("true") || written.equals("false")) {
            return Boolean.valueOf(written);
        }
        if (written.startsWith("1 << ")) {
            return 1 << Integer.parseInt(written.substring("1 << ".length()));
        }
        return Integer.valueOf(written);
    }
}
