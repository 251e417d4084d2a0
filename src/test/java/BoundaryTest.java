import java.io.IOException;
import java.lang.reflect.InvocationTargetException;
import java.lang.reflect.Method;
import java.lang.reflect.Modifier;
import java.nio.file.Files;
import java.nio.file.Path;
import java.util.ArrayList;
import java.util.Arrays;
import java.util.HashMap;
import java.util.List;
import java.util.Map;

/**
 * The document sentence by sentence: src/test/boundaries.txt holds its words, all of them and in
 * their order, and below those that name a boundary case a run of calls with the answers due.
 * How a line of it is written stands at its head.
 */
public final class BoundaryTest {
    private static final Path SENTENCES = Path.of("src/test/boundaries.txt");
    private static final Path DOCUMENT = Path.of("../shared/DOC.md");
    private static final int MOST_CALLS = 512, MOST_TOLD = 60;
    private static final long NO = Long.MIN_VALUE;
    private static final String KINDS = "sepc";
    private static final List<String> SORTS = List.of("bytes", "shorts", "ints", "longs", "booleans");
    private static final Map<String, Method> FACE = face();
    private static final Map<String, Long> NAMES = names();

    private final List<String> complaints = new ArrayList<>();
    private final List<String> words = new ArrayList<>();
    private String heading = "";
    private String sentence = "";
    private int sentences;
    private int checks;
    private int checksOfSentence;
    private boolean testing;
    private int lineNumber;
    private RisingRows object = new RisingRows();
    private int calls;
    private List<Long> kept;

    private static Map<String, Method> face() {
        Map<String, Method> found = new HashMap<>();
        for (Method m : RisingRows.class.getDeclaredMethods()) {
            if (Modifier.isPublic(m.getModifiers())) {
                found.put(m.getName(), m);
            }
        }
        return found;
    }

    private static Map<String, Long> names() {
        Map<String, Long> known = new HashMap<>();
        String[] refusals = {"NONE", "BAD", "STATE", "FULL"};
        for (int i = 0; i < refusals.length; i++) {
            known.put(refusals[i], -1L - i);
        }
        String[] hosts = {"NOTHING", "CAST", "PLACE", "SIZE"};
        for (int i = 0; i < hosts.length; i++) {
            known.put(hosts[i], -11L - i);
        }
        known.put("NO", NO);
        known.put("LEAST", (long) Integer.MIN_VALUE);
        known.put("MOST", (long) Integer.MAX_VALUE);
        known.put("LONGMOST", Long.MAX_VALUE);
        return known;
    }

    private static long number(String word) {
        if (NAMES.containsKey(word)) {
            return NAMES.get(word);
        }
        return word.startsWith("FAULT+") ? -10 - Long.parseLong(word.substring(6)) : Long.parseLong(word);
    }

    private void complain(String what) {
        complaints.add("boundaries.txt:" + lineNumber + ": " + what + "\n    [" + heading + "] " + sentence);
    }

    private void due(String what, Object got, Object want) {
        checks++;
        checksOfSentence++;
        if (!got.equals(want)) {
            complain(what + " answered " + got + ", due is " + want);
        }
    }

    private void startAnew() {
        object = new RisingRows();
        calls = 0;
        kept = null;
    }

    private long call(String name, long... args) {
        Method m = FACE.get(name);
        if (m == null || m.getParameterCount() != args.length) {
            throw new IllegalStateException("no such call: " + name + Arrays.toString(args));
        }
        calls++;
        if (calls > MOST_CALLS) {
            throw new IllegalStateException("more calls than an object is made for");
        }
        Object[] given = new Object[args.length];
        for (int i = 0; i < args.length; i++) {
            boolean isInt = m.getParameterTypes()[i] == int.class;
            given[i] = isInt ? (Object) Math.toIntExact(args[i]) : (Object) args[i];
        }
        try {
            return ((Number) m.invoke(object, given)).longValue();
        } catch (InvocationTargetException e) {
            throw new IllegalStateException(name + " threw " + e.getCause());
        } catch (IllegalAccessException e) {
            throw new IllegalStateException(e);
        }
    }

    private static long[] numbers(String[] parts, int from) {
        long[] found = new long[parts.length - from];
        for (int i = 0; i < found.length; i++) {
            found[i] = number(parts[from + i]);
        }
        return found;
    }

    /** Row 0 becomes as "e:2,3" tells. */
    private void put(int row, String told) {
        call("begin", row, KINDS.indexOf(told.charAt(0)));
        for (String n : told.substring(2).split(",")) {
            if (!n.isEmpty() && call("add", row, Long.parseLong(n)) < 0) {
                throw new IllegalStateException("add was refused");
            }
        }
    }

    private String holds(int row) {
        StringBuilder s = new StringBuilder().append(KINDS.charAt((int) call("told", row, 0))).append(':');
        long many = call("told", row, 1);
        for (int i = 0; i < many; i++) {
            s.append(i == 0 ? "" : ",").append(call("of", row, i));
        }
        return s.toString();
    }

    private String signs(int row) {
        StringBuilder s = new StringBuilder();
        for (int i = 0; i < 200; i++) {
            long sign = call("written", row, i);
            if (sign == -5) {
                break;
            }
            s.append((char) sign);
        }
        return s.toString();
    }

    private String items(int tape) {
        StringBuilder s = new StringBuilder();
        for (int i = 0; i <= 60; i++) {
            long item = call("peek", tape, i);
            if (item == NO) {
                break;
            }
            s.append(i == 0 ? "" : " ").append(item);
        }
        return s.toString();
    }

    private void lay(int tape, String[] parts) {
        call("tape", tape, SORTS.indexOf(parts[2]), parts.length - 3);
        for (int i = 3; i < parts.length; i++) {
            call("item", tape, i - 3, number(parts[i]));
        }
    }

    private String both(String[] parts) {
        long[] args = numbers(parts, 2);
        long[] more = Arrays.copyOf(args, args.length + 1);
        long up = call(parts[1], more);
        more[args.length] = 1;
        long low = call(parts[1], more);
        return up == NO && low == NO ? "NO" : up + "/" + low;
    }

    /** 'text 3 ";add 0 1"': the signs between the quotation marks, three times. */
    private void text(String line) {
        int from = line.indexOf('"');
        int to = line.lastIndexOf('"');
        String before = line.substring(0, from).trim();
        int times = before.contains(" ") ? Integer.parseInt(before.substring(before.indexOf(' ') + 1)) : 1;
        for (int k = 0; k < times; k++) {
            for (int i = from + 1; i < to; i++) {
                call("feed", line.charAt(i));
            }
        }
    }

    /** All that can be asked without a change. */
    private List<Long> picture() {
        List<Long> seen = new ArrayList<>();
        for (int r = 0; r < 6; r++) {
            seen.add(call("told", r, 0));
            long many = call("told", r, 1);
            seen.add(many);
            for (int i = 0; i < many; i++) {
                seen.add(call("of", r, i));
            }
            if (many > 0) {
                seen.add(call("fits", r, 0, 0));
            }
            seen.add(call("after", r, 0));
            seen.add(call("after", r, 1));
            seen.add(call("after", r, 2));
            for (int i = 0; seen.get(seen.size() - 1) != NO; i++) {
                seen.add(call("peek", r, i));
            }
        }
        for (int what = 0; what < 4; what++) {
            seen.add(call("count", what));
        }
        seen.add(call("looked"));
        return seen;
    }

    private void doIt(String line, String[] parts) {
        switch (parts[0]) {
            case "new" -> startAnew();
            case "put" -> put(Integer.parseInt(parts[1]), parts[2]);
            case "lay" -> lay(Integer.parseInt(parts[1]), parts);
            case "text" -> text(line);
            case "keep" -> kept = picture();
            case "same" -> due("all", picture(), kept);
            default -> throw new IllegalStateException("not understood: " + line);
        }
    }

    private void ask(String asked, String want) {
        String[] parts = asked.split(" ");
        switch (parts[0]) {
            case "holds" -> due(asked, holds(Integer.parseInt(parts[1])), want);
            case "signs" -> due(asked, signs(Integer.parseInt(parts[1])), want);
            case "items" -> due(asked, items(Integer.parseInt(parts[1])), want);
            case "both" -> due(asked, both(parts), want);
            default -> askCall(asked, parts, want);
        }
    }

    /** 'add 0 7 = 1..16' is asked 16 times; '500* of 0 0 = 7' 500 times. */
    private void askCall(String asked, String[] parts, String want) {
        if (parts[0].endsWith("*")) {
            String[] rest = Arrays.copyOfRange(parts, 1, parts.length);
            int times = Integer.parseInt(parts[0].substring(0, parts[0].length() - 1));
            for (int k = 0; k < times; k++) {
                due(asked, call(rest[0], numbers(rest, 1)), number(want));
            }
            return;
        }
        int dots = want.indexOf("..");
        long from = number(dots < 0 ? want : want.substring(0, dots));
        long to = dots < 0 ? from : number(want.substring(dots + 2));
        for (long k = 0; k <= to - from; k++) {
            due(asked, call(parts[0], numbers(parts, 1)), from + k);
        }
    }

    private void endSentence() {
        if (testing && checksOfSentence == 0) {
            complain("the sentence has no test");
        }
        checksOfSentence = 0;
        testing = false;
    }

    private void quote(String text) {
        words.addAll(Arrays.asList(text.trim().split("\\s+")));
    }

    private void follow(String line) {
        if (line.startsWith("#")) {
            endSentence();
            heading = line.substring(line.indexOf(' ') + 1);
            quote(line);
        } else if (line.startsWith("~ ")) {
            endSentence();
            quote(line.substring(2));
        } else if (line.startsWith("> ")) {
            endSentence();
            sentence = line.substring(2);
            quote(sentence);
            sentences++;
            testing = true;
            startAnew();
        } else if (!line.startsWith("--") && !line.isBlank()) {
            int equals = line.lastIndexOf(" =");
            if (equals > 0 && !line.endsWith("\"")) {
                ask(line.substring(0, equals), line.substring(equals + 2).trim());
            } else {
                doIt(line, line.split(" "));
            }
        }
    }

    private void followAll(List<String> lines) {
        for (String line : lines) {
            lineNumber++;
            try {
                follow(line);
            } catch (RuntimeException e) {
                complain(line + ": " + e);
            }
        }
        endSentence();
    }

    /** The face is left out: LanguageTest holds it against the compiled class. */
    private static List<String> wordsOf(String document) {
        String text = document.replaceAll("(?s)## The public face.*?```java.*?```", "");
        return Arrays.asList(text.replace("```text", "").replace("```", "").trim().split("\\s+"));
    }

    private void holdAgainst(List<String> document) {
        int same = 0;
        while (same < Math.min(words.size(), document.size()) && words.get(same).equals(document.get(same))) {
            same++;
        }
        if (same < words.size() || same < document.size()) {
            lineNumber = 0;
            complain("the words are not the document's; there: "
                    + String.join(" ", document.subList(same, Math.min(same + 12, document.size()))) + " .. here: "
                    + String.join(" ", words.subList(same, Math.min(same + 12, words.size()))));
        }
    }

    /** How many complaints there are; they are told if tell is so. */
    public static int complaints(boolean tell) throws IOException {
        BoundaryTest test = new BoundaryTest();
        test.followAll(Files.readAllLines(SENTENCES));
        if (Files.isReadable(DOCUMENT)) {
            test.holdAgainst(wordsOf(Files.readString(DOCUMENT)));
        } else {
            System.out.println("the document isn't there to be held against");
        }
        if (tell) {
            test.complaints.stream().limit(MOST_TOLD).forEach(System.out::println);
            System.out.println(test.checks + " checks of " + test.sentences + " sentences, "
                    + test.complaints.size() + " complaints");
        }
        return test.complaints.size();
    }

    public static void main(String[] args) throws IOException {
        if (complaints(true) != 0) {
            System.exit(1);
        }
    }
}
