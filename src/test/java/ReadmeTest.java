import java.lang.reflect.Method;
import java.lang.reflect.Modifier;
import java.nio.file.Files;
import java.nio.file.Path;
import java.util.HashMap;
import java.util.Map;
import java.util.Set;
import java.util.TreeSet;
import java.util.regex.Matcher;
import java.util.regex.Pattern;

/** The examples of README.md are called line by line: what is told behind a call must be its answer. */
public final class ReadmeTest {
    private static final Pattern MADE = Pattern.compile("LettersEliminated e = new LettersEliminated\\(\\);.*");
    private static final Pattern TEXT = Pattern.compile("for \\(char c : \"(.*)\"\\.toCharArray\\(\\)\\) e\\.letter\\(c\\);");
    private static final Pattern CALL = Pattern.compile("(?:int (\\w+) = )?e\\.(\\w+)\\((.*)\\);\\s+// (-?\\d+)(?::.*)?");

    private final Map<String, Method> face = new HashMap<>();
    private final Map<String, Integer> names = new HashMap<>();
    private LettersEliminated e = new LettersEliminated();
    private int calls;
    private int wrong;

    public static void main(String[] args) throws Exception {
        Path readme = Path.of(args[0]).toAbsolutePath().resolve("../../../../README.md").normalize();
        ReadmeTest test = new ReadmeTest();
        test.read(Files.readString(readme));
        System.out.println(test.wrong == 0 ? test.calls + " answers are as README.md tells them"
            : test.wrong + " lines of README.md do not hold");
        if (test.wrong != 0 || test.calls == 0) {
            System.exit(1);
        }
    }

    private ReadmeTest() {
        for (Method method : LettersEliminated.class.getDeclaredMethods()) {
            if (Modifier.isPublic(method.getModifiers())) {
                face.put(method.getName(), method);
            }
        }
    }

    private void read(String text) throws Exception {
        boolean inside = false;
        for (String line : text.split("\n")) {
            if (line.startsWith("```")) {
                inside = line.equals("```java");
            } else if (inside) {
                step(line);
            }
        }
        Set<String> unnamed = new TreeSet<>(face.keySet());
        unnamed.removeIf(name -> text.contains("`" + name + "`"));
        if (!unnamed.isEmpty()) {
            fail("calls that README.md does not name: " + unnamed);
        }
    }

    private void fail(String what) {
        wrong++;
        System.out.println(what);
    }

    private void step(String line) throws Exception {
        Matcher text = TEXT.matcher(line);
        Matcher call = CALL.matcher(line);
        if (MADE.matcher(line).matches()) {
            e = new LettersEliminated();
        } else if (text.matches()) {
            for (char c : text.group(1).toCharArray()) {
                e.letter(c);
            }
        } else if (call.matches()) {
            answer(line, call);
        } else {
            fail("not understood: " + line);
        }
    }

    private void answer(String line, Matcher call) throws Exception {
        String[] told = call.group(3).isEmpty() ? new String[0] : call.group(3).split(", ");
        Object[] numbers = new Object[told.length];
        for (int k = 0; k < told.length; k++) {
            numbers[k] = names.containsKey(told[k]) ? names.get(told[k]) : Integer.valueOf(told[k]);
        }
        long got = ((Number) face.get(call.group(2)).invoke(e, numbers)).longValue();
        calls++;
        if (got != Long.parseLong(call.group(4))) {
            fail("answered " + got + ": " + line);
        }
        if (call.group(1) != null) {
            names.put(call.group(1), (int) got);
        }
    }
}
