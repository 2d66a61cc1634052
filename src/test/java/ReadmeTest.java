import java.io.IOException;
import java.lang.reflect.Method;
import java.lang.reflect.Modifier;
import java.nio.file.Files;
import java.nio.file.Path;
import java.util.HashMap;
import java.util.HashSet;
import java.util.Map;
import java.util.Set;
import java.util.regex.Matcher;
import java.util.regex.Pattern;

/** README.md tells no answer that the class does not give, and leaves no call out. */
public final class ReadmeTest {
    private static final String README = "README.md";
    private static final String MADE = "StepPile x = new StepPile();";
    private static final Pattern BLOCK = Pattern.compile("(?s)```java\\n(.*?)```");
    /** A call, perhaps with a name for its answer, and the answer that stands behind it. */
    private static final Pattern LINE =
            Pattern.compile("(?:int (\\w+) = )?x\\.(\\w+)\\(([^()]*)\\);\\s+// (-?\\d+)(?:,.*)?");
    private static final Due d = new Due();

    private ReadmeTest() {
    }

    public static void main(String[] args) throws IOException, ReflectiveOperationException {
        String text = Files.readString(Path.of(README));
        example(text);
        allCalls(text);
        d.end();
    }

    private static void example(String text) throws ReflectiveOperationException {
        d.at("README.md, the lines of Java");
        Matcher block = BLOCK.matcher(text);
        boolean found = block.find();
        d.isTrue("there are some", found);
        if (!found) {
            return;
        }
        StepPile x = null;
        Map<String, Integer> names = new HashMap<>();
        Set<String> used = new HashSet<>();
        for (String line : block.group(1).split("\n")) {
            Matcher call = LINE.matcher(line);
            if (line.equals(MADE)) {
                x = new StepPile();
            } else if (call.matches()) {
                used.add(call.group(2));
                int answer = answerOf(x, call.group(2), call.group(3), names);
                d.due(line, answer, Integer.parseInt(call.group(4)));
                if (call.group(1) != null) {
                    d.isTrue("a new name: " + line, names.put(call.group(1), answer) == null);
                }
            } else {
                d.isTrue("a line that can be run: " + line, line.isEmpty());
            }
        }
        for (String must : new String[] {"symbol", "begin", "put", "need", "pair", "close", "apart", "step", "save",
            "again", "clear"}) {
            d.isTrue("they use " + must, used.contains(must));
        }
    }

    private static int answerOf(StepPile x, String call, String given, Map<String, Integer> names)
            throws ReflectiveOperationException {
        String[] words = given.isEmpty() ? new String[0] : given.split(", ");
        Class<?>[] types = new Class<?>[words.length];
        Object[] values = new Object[words.length];
        for (int k = 0; k < words.length; k++) {
            types[k] = int.class;
            values[k] = names.containsKey(words[k]) ? names.get(words[k]) : Integer.valueOf(words[k]);
        }
        return (Integer) StepPile.class.getMethod(call, types).invoke(x, values);
    }

    private static void allCalls(String text) {
        d.at("README.md, the calls");
        for (Method m : StepPile.class.getDeclaredMethods()) {
            if (Modifier.isPublic(m.getModifiers())) {
                d.isTrue(m.getName() + " has a row of the table", text.contains("\n| `" + m.getName() + "("));
            }
        }
    }
}
