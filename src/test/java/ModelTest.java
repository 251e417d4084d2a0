import java.lang.reflect.InvocationTargetException;
import java.lang.reflect.Method;
import java.util.ArrayList;
import java.util.HashMap;
import java.util.List;
import java.util.Map;
import java.util.Random;

/** Runs of chance calls (the same ones every time), each answer held against the slow model's. */
public final class ModelTest {
    private static final int RUNS = 1500;
    private static final int CALLS_A_RUN = 512;
    private static final String[] CALLS = {
        "spread rkuU", "begin rk", "add rv", "cut rn", "copies rr", "works rrrh", "feed s", "read",
        "of rn", "told rw", "worth rp", "written ri", "greater rr", "worthier rr", "beginning rnpp",
        "units tTw", "see rtT", "fits rnp", "odds rrp", "mean p", "event er", "after rh", "book bv",
        "looked", "judge rrx", "image", "undo", "count w", "tape ryz", "item rxV", "peek rx",
        "shift rxrxx"
    };

    private final Random chance;
    private final RisingRows object = new RisingRows();
    private final SlowModel model = new SlowModel();
    private final List<String> story = new ArrayList<>();
    private int calls;
    private boolean wrong;

    private static final Map<String, Method> OBJECT_CALLS = callsOf(RisingRows.class);
    private static final Map<String, Method> MODEL_CALLS = callsOf(SlowModel.class);
    private static final Map<String, Integer> ANSWERS = new HashMap<>();

    private ModelTest(long seed) {
        chance = new Random(seed);
    }

    private static Map<String, Method> callsOf(Class<?> type) {
        Map<String, Method> found = new HashMap<>();
        for (Method m : type.getDeclaredMethods()) {
            if (java.lang.reflect.Modifier.isPublic(m.getModifiers())) {
                found.put(m.getName(), m);
            }
        }
        return found;
    }

    private static long answer(Method method, Object target, Object[] args) throws Throwable {
        try {
            return ((Number) method.invoke(target, args)).longValue();
        } catch (InvocationTargetException e) {
            throw e.getCause();
        }
    }

    private boolean mayGoOn() {
        return !wrong && calls < CALLS_A_RUN;
    }

    private long call(String name, Object... args) {
        if (!mayGoOn()) {
            return 0;
        }
        calls++;
        StringBuilder told = new StringBuilder(name).append(java.util.Arrays.toString(args));
        try {
            long due = answer(MODEL_CALLS.get(name), model, args);
            long got = answer(OBJECT_CALLS.get(name), object, args);
            told.append(" -> ").append(got);
            if (got != due) {
                wrong = true;
                told.append(", due is ").append(due);
            }
            ANSWERS.merge(name + " " + (due >= 0 ? "told" : String.valueOf(due)), 1, Integer::sum);
            story.add(told.toString());
            return due;
        } catch (Throwable t) {
            wrong = true;
            story.add(told.append(" threw ").append(t).toString());
            return 0;
        }
    }

    private int oneOf(int... vs) {
        return vs[chance.nextInt(vs.length)];
    }

    private int odd() {
        return oneOf(-1, -2, 6, 7, 16, 17, 60, 61, 100, 127, 128, 1000000, 10000, 1000000001,
                Integer.MAX_VALUE, Integer.MIN_VALUE, Integer.MAX_VALUE - 3, 0);
    }

    private Object argument(char sort) {
        if (sort == 'V') {
            return chance.nextInt(3) == 0 ? chance.nextLong() : (long) oneOf(0, 1, 2, 3, 4, 5, 128, 256, -1, 65536);
        }
        if (chance.nextInt(40) == 0) {
            return odd();
        }
        return switch (sort) {
            case 'r' -> chance.nextInt(6);
            case 'k' -> chance.nextInt(4);
            case 'u' -> chance.nextInt(3) == 0 ? 1 + chance.nextInt(999999) : 1 + chance.nextInt(20);
            case 'U' -> chance.nextInt(3) == 0 ? 1 + chance.nextInt(999999) : 1 + chance.nextInt(90);
            case 'v' -> number();
            case 'n' -> chance.nextInt(2) == 0 ? chance.nextInt(4) : chance.nextInt(18);
            case 'h' -> chance.nextInt(3);
            case 's' -> chance.nextInt(128);
            case 'w' -> chance.nextInt(4);
            case 'p' -> chance.nextInt(2);
            case 'i' -> chance.nextInt(chance.nextInt(2) == 0 ? 8 : 60);
            case 't' -> chance.nextInt(2) == 0 ? 1 + chance.nextInt(9999) : 1 + chance.nextInt(12);
            case 'T' -> chance.nextInt(4) == 0 ? 1 + chance.nextInt(9999) : 1 + chance.nextInt(60);
            case 'e' -> chance.nextInt(12) == 0 ? -1 : chance.nextInt(3);
            case 'b' -> chance.nextInt(12) == 0 ? -1 : 100 * chance.nextInt(6) + chance.nextInt(4);
            case 'x' -> chance.nextInt(5) == 0 ? chance.nextInt(62) : chance.nextInt(6);
            case 'y' -> chance.nextInt(6) - 1;
            case 'z' -> chance.nextInt(4) == 0 ? chance.nextInt(61) : chance.nextInt(8);
            default -> 0;
        };
    }

    private int number() {
        return switch (chance.nextInt(8)) {
            case 0 -> 1000000000 - chance.nextInt(3);
            case 1 -> chance.nextInt(100000);
            case 2 -> chance.nextInt(100);
            default -> chance.nextInt(7);
        };
    }

    private void chanceCall() {
        String[] parts = CALLS[chance.nextInt(CALLS.length)].split(" ");
        int many = parts.length > 1 ? parts[1].length() : 0;
        Object[] args = new Object[many];
        for (int i = 0; i < many; i++) {
            args[i] = argument(parts[1].charAt(i));
        }
        call(parts[0], args);
    }

    /** Rows by hand that rise as spread ones do, or miss that by one. */
    private void risingRow() {
        int row = chance.nextInt(6);
        int kind = chance.nextInt(4);
        call("begin", row, kind);
        long last = 1 + chance.nextInt(3);
        int many = 1 + chance.nextInt(chance.nextInt(3) == 0 ? 16 : 4);
        for (int i = 0; i < many && mayGoOn(); i++) {
            long v = switch (kind) {
                case 0 -> i == 0 ? last : last * (last - 1) + 1;
                case 1 -> last + chance.nextInt(2);
                case 2 -> last + 1 + chance.nextInt(3);
                default -> chance.nextInt(i + 2);
            };
            v += chance.nextInt(8) == 0 ? chance.nextInt(3) - 1 : 0;
            last = Math.max(0, Math.min(1000000000, v));
            call("add", row, (int) last);
        }
    }

    private void seeWhatIs() {
        int row = chance.nextInt(6);
        long up = model.worth(row, 0);
        long low = model.worth(row, 1);
        if (chance.nextInt(3) == 0) {
            call("see", -1, odd(), odd());
        }
        if (up > 0 && up <= 4999 && low <= 4999) {
            int times = 1 + chance.nextInt(2);
            call("see", row, (int) up * times, (int) low * times);
        }
        call("fits", row, chance.nextInt(4), chance.nextInt(2));
    }

    private void judgeWhatIs() {
        int row = chance.nextInt(6);
        int tape = chance.nextInt(6);
        List<Integer> numbers = model.numbersOf(row);
        int from = chance.nextInt(3);
        call("tape", tape, 2, Math.max(0, from + numbers.size() - chance.nextInt(2)));
        for (int k = 0; k < numbers.size(); k++) {
            call("item", tape, from + k, (long) numbers.get(k) + (chance.nextInt(20) == 0 ? 1 : 0));
        }
        call("judge", row, tape, from);
        call("judge", row, tape, oneOf(-1, 0, from + 1, Integer.MAX_VALUE));
    }

    private void bookWhatIs() {
        int row = chance.nextInt(6);
        List<Integer> numbers = model.numbersOf(row);
        for (int k = 0; k < numbers.size() && k < 3; k++) {
            call("book", 100 * row + k, (int) numbers.get(k));
        }
        call("looked");
    }

    private String clause() {
        StringBuilder s = new StringBuilder(
                new String[] {"spread", "row", "add", "cut", "copy"}[chance.nextInt(5)]);
        int many = s.charAt(0) == 's' ? 4 : 2;
        for (int i = 0; i < many; i++) {
            s.append(' ').append(chance.nextInt(10) == 0 ? odd() & 0xffffff : chance.nextInt(7));
        }
        return s.toString();
    }

    private void setUp() {
        call("read");
        StringBuilder s = new StringBuilder(clause());
        int more = chance.nextInt(3) == 0 ? 12 : chance.nextInt(4);
        for (int i = 0; i < more; i++) {
            s.append(';').append(chance.nextInt(3) == 0 ? "add 1 1" : clause());
        }
        if (chance.nextInt(2) == 0) {
            s.setCharAt(chance.nextInt(s.length()), "; 0acdsrow1\0".charAt(chance.nextInt(12)));
        }
        if (chance.nextInt(3) == 0) {
            s.setLength(chance.nextInt(s.length()));
        }
        for (int i = 0; i < s.length() && mayGoOn(); i++) {
            call("feed", (int) s.charAt(i));
        }
        call("count", 3);
        call("read");
    }

    /** What is asked at the end shows a change that no call of the run looked at. */
    private void lookAtAll() {
        for (int row = 0; row < 6; row++) {
            for (int what = 0; what < 4; what++) {
                call("told", row, what);
                call("count", what);
            }
            for (int i = 0; i < 16; i++) {
                call("of", row, i);
            }
            call("worth", row, 0);
            call("worth", row, 1);
            call("after", row, 0);
        }
    }

    private boolean passes() {
        while (mayGoOn() && calls < CALLS_A_RUN - 170) {
            switch (chance.nextInt(24)) {
                case 0, 1 -> risingRow();
                case 2 -> seeWhatIs();
                case 3 -> judgeWhatIs();
                case 4 -> bookWhatIs();
                case 5 -> {
                    if (chance.nextInt(4) == 0) {
                        setUp();
                    }
                }
                default -> chanceCall();
            }
        }
        lookAtAll();
        return !wrong;
    }

    private static boolean everyAnswerCame() {
        boolean all = true;
        String[] due = {
            "spread told", "spread -1", "spread -2", "begin told", "begin -1", "add told", "add -1",
            "add -2", "add -4", "cut told", "cut -1", "cut -2", "copies told", "copies -1",
            "works told", "works -1", "works -3", "feed told", "feed -2", "feed -4", "read told",
            "read -10", "read -13", "of told", "of -1", "of -5", "told told", "told -1", "told -5",
            "worth told", "worth " + Long.MIN_VALUE, "written told", "written -1", "written -5",
            "greater told", "greater -1", "greater -3", "worthier told", "worthier -1",
            "worthier -3", "beginning told", "beginning " + Long.MIN_VALUE, "units told",
            "units -1", "units -2", "units -5", "see told", "see -1", "see -2", "see -4",
            "fits told", "fits -1", "fits -5", "odds told", "odds " + Long.MIN_VALUE, "mean told",
            "mean " + Long.MIN_VALUE, "event told", "event -1", "event -4", "after told",
            "after -1", "after -5", "book told", "book -1", "book -2", "book -4", "looked told",
            "looked -5", "judge told", "judge -1", "judge -5", "judge -12", "image told",
            "undo told", "undo -3", "count told", "count -2", "tape told", "tape -1", "tape -2",
            "tape -14", "item told", "item -1", "item -11", "item -13", "peek told",
            "peek " + Long.MIN_VALUE, "shift told", "shift -1", "shift -11", "shift -12",
            "shift -13"
        };
        for (String answer : due) {
            if (!ANSWERS.containsKey(answer)) {
                System.out.println("no run came to the answer '" + answer + "'");
                all = false;
            }
        }
        return all;
    }

    public static void main(String[] args) {
        int wrongRuns = 0;
        for (int run = 0; run < RUNS; run++) {
            ModelTest test = new ModelTest(run);
            if (!test.passes()) {
                wrongRuns++;
                System.out.println("run of seed " + run + ":");
                for (String line : test.story) {
                    System.out.println("  " + line);
                }
                break;
            }
        }
        boolean all = wrongRuns > 0 || everyAnswerCame();
        System.out.println(wrongRuns == 0 ? RUNS + " runs are as the model's" : "a run is not as the model's");
        if (wrongRuns > 0 || !all) {
            System.exit(1);
        }
    }
}
