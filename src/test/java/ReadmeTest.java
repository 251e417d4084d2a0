import java.io.IOException;
import java.lang.reflect.Method;
import java.lang.reflect.Modifier;
import java.nio.file.Files;
import java.nio.file.Path;
import java.util.Map;
import java.util.TreeMap;
import java.util.regex.Matcher;
import java.util.regex.Pattern;

/** The calls that README.md shows are made one behind the other, and must answer what it says. */
public final class ReadmeTest {
    private static final Path README = Path.of("README.md");
    private static final String MAKES = "RisingRows x = new RisingRows();";
    private static final Pattern CALL = Pattern.compile("x\\.(\\w+)\\(([^)]*)\\); +// (-?\\d+|RisingRows\\.\\w+)(:.*)?");
    private static final Pattern FEEDS = Pattern.compile(
            "for \\(char sign : \"([^\"]*)\"\\.toCharArray\\(\\)\\) \\{ x\\.feed\\(sign\\); \\}");

    private final Map<String, Method> notShown = new TreeMap<>();
    private final Map<String, Method> face = new TreeMap<>();
    private RisingRows object;
    private int calls;
    private int wrong;

    private ReadmeTest() {
        for (Method m : RisingRows.class.getDeclaredMethods()) {
            if (Modifier.isPublic(m.getModifiers())) {
                face.put(m.getName(), m);
            }
        }
        notShown.putAll(face);
    }

    private void complain(String what) {
        wrong++;
        System.out.println("README.md: " + what);
    }

    private static long numberOf(String word) throws ReflectiveOperationException {
        if (word.startsWith("RisingRows.")) {
            String name = word.substring("RisingRows.".length());
            return ((Number) RisingRows.class.getField(name).get(null)).longValue();
        }
        return Long.parseLong(word);
    }

    private long answer(String name, String[] given) throws ReflectiveOperationException {
        Method m = face.get(name);
        notShown.remove(name);
        calls++;
        Object[] args = new Object[given.length];
        for (int i = 0; i < given.length; i++) {
            boolean isInt = m.getParameterTypes()[i] == int.class;
            args[i] = isInt ? (Object) Integer.parseInt(given[i]) : (Object) Long.parseLong(given[i]);
        }
        return ((Number) m.invoke(object, args)).longValue();
    }

    private void lookAt(String line) throws ReflectiveOperationException {
        Matcher call = CALL.matcher(line);
        Matcher feeds = FEEDS.matcher(line);
        if (line.equals(MAKES)) {
            object = new RisingRows();
        } else if (feeds.matches()) {
            for (char sign : feeds.group(1).toCharArray()) {
                answer("feed", new String[] {String.valueOf((int) sign)});
            }
        } else if (call.matches() && face.containsKey(call.group(1))) {
            String[] given = call.group(2).isEmpty() ? new String[0] : call.group(2).split(", ");
            long got = answer(call.group(1), given);
            if (got != numberOf(call.group(3))) {
                complain(line + " answered " + got);
            }
        } else if (!line.isBlank() && !line.startsWith("// ")) {
            complain("no call with an answer: " + line);
        }
    }

    private void run() throws IOException, ReflectiveOperationException {
        boolean isCode = false;
        for (String line : Files.readAllLines(README)) {
            if (line.startsWith("```")) {
                isCode = line.equals("```java");
            } else if (isCode) {
                lookAt(line);
            }
        }
        if (!notShown.isEmpty()) {
            complain("not shown: " + notShown.keySet());
        }
        System.out.println(calls + " calls of README.md, " + wrong + " wrong");
    }

    public static void main(String[] args) throws IOException, ReflectiveOperationException {
        ReadmeTest test = new ReadmeTest();
        test.run();
        if (test.wrong != 0) {
            System.exit(1);
        }
    }
}
