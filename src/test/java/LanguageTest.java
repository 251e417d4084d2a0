import java.io.IOException;
import java.lang.reflect.Constructor;
import java.lang.reflect.Field;
import java.lang.reflect.Member;
import java.lang.reflect.Method;
import java.lang.reflect.Modifier;
import java.nio.file.Files;
import java.nio.file.Path;
import java.util.ArrayList;
import java.util.Arrays;
import java.util.List;
import java.util.Set;
import java.util.TreeSet;
import java.util.regex.Matcher;
import java.util.regex.Pattern;

/** What of ../shared/LANGUAGE.md can be seen by a look at the source and at the compiled class. */
public final class LanguageTest {
    private static final Path SOURCE = Path.of("src/main/java/RisingRows.java");
    private static final int MOST_LINES = 60, MOST_FIELDS = 20, MOST_CLASSES = 12, MOST_PARAMETERS = 7;
    private static final String FACE = """
            RisingRows()
            int add(int,int)
            int after(int,int)
            int begin(int,int)
            int book(int,int)
            int copies(int,int)
            int count(int)
            int cut(int,int)
            int event(int,int)
            int feed(int)
            int fits(int,int,int)
            int greater(int,int)
            int image()
            int item(int,int,long)
            int judge(int,int,int)
            int looked()
            int of(int,int)
            int read()
            int see(int,int,int)
            int shift(int,int,int,int,int)
            int spread(int,int,int,int)
            int tape(int,int,int)
            int told(int,int)
            int undo()
            int units(int,int,int)
            int works(int,int,int,int)
            int worthier(int,int)
            int written(int,int)
            long beginning(int,int,int,int)
            long mean(int)
            long odds(int,int,int)
            long peek(int,int)
            long worth(int,int)
            static int BAD
            static int FULL
            static int NONE
            static int STATE
            static long NO
            """;
    private static final Set<String> LIBRARY = Set.of(
            "Math.abs", "Math.min", "Math.max", "System.arraycopy", "Long.MIN_VALUE");

    private static int wrong;

    private static void must(boolean holds, String what) {
        if (!holds) {
            wrong++;
            System.out.println(what);
        }
    }

    private static String parameters(Class<?>[] types) {
        List<String> names = new ArrayList<>();
        for (Class<?> type : types) {
            names.add(type.getSimpleName());
        }
        return "(" + String.join(",", names) + ")";
    }

    private static void faceIsTheDocuments() {
        Set<String> face = new TreeSet<>();
        Class<?> type = RisingRows.class;
        for (Method m : type.getDeclaredMethods()) {
            onlyPublicOrPrivate(m);
            if (Modifier.isPublic(m.getModifiers())) {
                face.add(m.getReturnType() + " " + m.getName() + parameters(m.getParameterTypes()));
            }
        }
        for (Constructor<?> c : type.getDeclaredConstructors()) {
            onlyPublicOrPrivate(c);
            face.add("RisingRows" + parameters(c.getParameterTypes()));
        }
        for (Field f : type.getDeclaredFields()) {
            onlyPublicOrPrivate(f);
            if (Modifier.isPublic(f.getModifiers())) {
                must(Modifier.isFinal(f.getModifiers()), f + " is not final");
                face.add((Modifier.isStatic(f.getModifiers()) ? "static " : "") + f.getType() + " " + f.getName());
            }
        }
        must(face.equals(new TreeSet<>(Arrays.asList(FACE.split("\n")))), "the face is otherwise: " + face);
        must(Modifier.isFinal(type.getModifiers()) && Modifier.isPublic(type.getModifiers()), "not public and final");
    }

    private static void onlyPublicOrPrivate(Member member) {
        int modifiers = member.getModifiers();
        must(Modifier.isPublic(modifiers) || Modifier.isPrivate(modifiers), member + " is seen by the package");
    }

    private static void classesAreSmall() {
        Class<?>[] inside = RisingRows.class.getDeclaredClasses();
        must(inside.length + 1 <= MOST_CLASSES, "too many classes");
        List<Class<?>> all = new ArrayList<>(Arrays.asList(inside));
        all.add(RisingRows.class);
        Set<String> face = new TreeSet<>();
        for (Method m : RisingRows.class.getMethods()) {
            face.add(m.getName());
        }
        for (Class<?> type : all) {
            must(type == RisingRows.class || Modifier.isStatic(type.getModifiers()), type + " is not static");
            int own = 0;
            for (Field f : type.getDeclaredFields()) {
                boolean isStatic = Modifier.isStatic(f.getModifiers());
                must(!isStatic || Modifier.isFinal(f.getModifiers()), f + " is static and not final");
                own += isStatic ? 0 : 1;
            }
            must(own <= MOST_FIELDS, type + " has too many fields");
            for (Method m : type.getDeclaredMethods()) {
                must(m.getParameterCount() <= MOST_PARAMETERS, m + " takes too much");
                must(Modifier.isPublic(m.getModifiers()) || !face.contains(m.getName()), m + " bears a public name");
            }
        }
    }

    private static String withoutComments(String source) {
        return source.replaceAll("(?s)/\\*.*?\\*/", " ").replaceAll("//[^\n]*", " ");
    }

    private static void wordsAreAllowed(String code) {
        String[] refused = {
            "\\bthrow\\b", "\\bthrows\\b", "\\btry\\b", "\\bcatch\\b", "\\bfinally\\b", "\\bsynchronized\\b", "\\bassert\\b",
            "->", "::", "Exact\\b", "\\bimport\\b", "\\bpackage\\b", "static\\s*\\{", "\\bprotected\\b", "\\bhashCode\\b",
            "\\btoString\\b", "\\bequals\\b", "\\bdouble\\b", "\\bfloat\\b", "\\bvolatile\\b", "\\bnative\\b", "\"\\s*\\+", "\\+\\s*\""};
        for (String word : refused) {
            must(!Pattern.compile(word).matcher(code).find(), "the source has " + word);
        }
        Matcher library = Pattern.compile("\\b[A-Z][a-z]\\w*\\.\\w+").matcher(code);
        while (library.find()) {
            must(LIBRARY.contains(library.group()), "the source uses " + library.group());
        }
        for (int i = 0; i < code.length(); i++) {
            must(code.charAt(i) < 128, "a sign above 127");
        }
    }

    private static void methodsAreShort(String source) {
        String[] lines = source.split("\n");
        Pattern head = Pattern.compile("^( {4}| {8})(public|private)[^=;]*\\) \\{$");
        for (int i = 0; i < lines.length; i++) {
            Matcher m = head.matcher(lines[i]);
            if (m.find()) {
                int end = i;
                while (end < lines.length && !lines[end].equals(m.group(1) + "}")) {
                    end++;
                }
                must(end - i < MOST_LINES, "a long method: " + lines[i].trim());
            }
        }
    }

    /** Rule 9, as far as lines tell it: a counter stands against a bound, and is stepped in the loop. */
    private static void loopsHaveAnEnd(String code) {
        Matcher loop = Pattern.compile("(?m)^( *)(for|while|do)\\b(.*?)\\{\\n(.*?)^\\1\\}", Pattern.DOTALL).matcher(code);
        int from = 0;
        while (loop.find(from)) {
            boolean ends = false;
            Matcher bound = Pattern.compile("(\\w+) (<|<=|>=) \\w").matcher(loop.group(3));
            while (bound.find()) {
                ends |= Pattern.compile("\\b" + bound.group(1) + "(\\+\\+|--)").matcher(loop.group()).find();
            }
            must(ends, "a loop without a counter: " + loop.group(2) + loop.group(3).trim());
            from = loop.end(3);
        }
    }

    public static void main(String[] args) throws IOException {
        String source = Files.readString(SOURCE);
        faceIsTheDocuments();
        classesAreSmall();
        wordsAreAllowed(withoutComments(source));
        methodsAreShort(source);
        loopsHaveAnEnd(withoutComments(source));
        System.out.println(wrong == 0 ? "the language's rules that can be looked at are kept" : wrong + " rules are broken");
        if (wrong != 0) {
            System.exit(1);
        }
    }
}
