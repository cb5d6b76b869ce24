import java.io.IOException;
import java.lang.reflect.InvocationTargetException;
import java.lang.reflect.Method;
import java.nio.file.Files;
import java.nio.file.Path;
import java.util.HashMap;
import java.util.Map;
import java.util.NoSuchElementException;

/**
 * Many calls in many runs, each with the answer that a second model of the document gave.
 * A line is "new", or a call with its arguments (1 for true), " = " and the answer (X: NoSuchElementException).
 * With the word "record" the file is written anew with the answers of now: for a change that is meant.
 */
public final class RecordedRunsTest {
    private static final Path RUNS = Path.of("src/test/runs/runs.txt");

    public static void main(String[] args) throws IOException, ReflectiveOperationException {
        Due due = new Due();
        boolean record = args.length > 0 && args[0].equals("record");
        StringBuilder anew = new StringBuilder();
        Map<String, Method> methods = new HashMap<>();
        for (Method method : KnowLocks.class.getMethods()) {
            methods.put(method.getName(), method);
        }
        KnowLocks x = new KnowLocks();
        int at = 0;
        for (String line : Files.readAllLines(RUNS)) {
            at++;
            if (line.equals("new")) {
                x = new KnowLocks();
                anew.append("new\n");
                continue;
            }
            String[] sides = line.split(" = ");
            String got = answer(x, methods, sides[0].split(" "));
            due.is("line " + at + ": " + line + " (answered " + got + ")", record || got.equals(sides[1]), true);
            anew.append(sides[0]).append(" = ").append(got).append('\n');
        }
        if (record) {
            Files.writeString(RUNS, anew);
        }
        due.is("lines are there", at > 4000, true);
        due.end();
    }

    private static String answer(KnowLocks x, Map<String, Method> methods, String[] call)
            throws ReflectiveOperationException {
        Method method = methods.get(call[0]);
        Class<?>[] types = method.getParameterTypes();
        Object[] values = new Object[types.length];
        for (int i = 0; i < types.length; i++) {
            if (types[i] == long.class) {
                values[i] = Long.parseLong(call[i + 1]);
            } else if (types[i] == boolean.class) {
                values[i] = call[i + 1].equals("1");
            } else {
                values[i] = Integer.parseInt(call[i + 1]);
            }
        }
        try {
            Object got = method.invoke(x, values);
            return got instanceof Boolean ? (Boolean) got ? "1" : "0" : got.toString();
        } catch (InvocationTargetException e) {
            return e.getCause() instanceof NoSuchElementException ? "X" : e.getCause().toString();
        }
    }
}
