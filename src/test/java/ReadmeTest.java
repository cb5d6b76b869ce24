import java.io.IOException;
import java.lang.reflect.Method;
import java.nio.file.Files;
import java.nio.file.Path;
import java.util.ArrayList;
import java.util.List;

/** The texts and calls of README.md, each call with the answer that stands behind it. */
public final class ReadmeTest {
    public static void main(String[] args) throws IOException, ReflectiveOperationException {
        Due due = new Due();
        List<String> page = Files.readAllLines(Path.of("README.md"));
        KnowLocks x = new KnowLocks();
        due.quarter(x, String.join("\n", block(page, "quarter")));
        due.history(x, String.join("\n", block(page, "history")));
        List<String> calls = block(page, "calls");
        for (String line : calls) {
            String call = line.substring(2, line.indexOf(';'));
            int behind = line.indexOf("// ") + 3;
            String want = line.substring(behind, line.indexOf(": ", behind));
            String got = answer(x, call);
            due.is("x." + call + " (answered " + got + ", README.md says " + want + ")", got.equals(want), true);
        }
        due.is("calls are there", calls.size() > 20, true);
        due.end();
    }

    private static List<String> block(List<String> page, String name) {
        List<String> block = new ArrayList<>();
        for (int i = page.indexOf("```" + name) + 1; i > 0 && !page.get(i).equals("```"); i++) {
            block.add(page.get(i));
        }
        return block;
    }

    private static String answer(KnowLocks x, String call) throws ReflectiveOperationException {
        int open = call.indexOf('(');
        String[] told = open + 2 == call.length() ? new String[0] : call.substring(open + 1, call.length() - 1).split(", ");
        for (Method method : KnowLocks.class.getMethods()) {
            if (method.getName().equals(call.substring(0, open))) {
                Object[] values = new Object[told.length];
                for (int i = 0; i < told.length; i++) {
                    boolean truth = told[i].equals("true") || told[i].equals("false");
                    values[i] = truth ? (Object) Boolean.valueOf(told[i]) : Integer.valueOf(told[i]);
                }
                return method.invoke(x, values).toString();
            }
        }
        return "no such call";
    }
}
