import java.lang.reflect.Constructor;
import java.lang.reflect.Field;
import java.lang.reflect.Method;
import java.lang.reflect.Modifier;
import java.nio.file.Files;
import java.nio.file.Path;
import java.util.Arrays;
import java.util.List;
import java.util.Set;
import java.util.TreeSet;
import java.util.regex.Matcher;
import java.util.regex.Pattern;
import java.util.stream.Collectors;

/** The public face as the document has it, and what can be seen of LANGUAGE.md in the source. */
public final class FaceTest {
    private static final Due DUE = new Due("FaceTest");
    private static final String FACE = """
        int ground(int, int); int town(int); int houses(int, int, int); int built(int, int); int of(int, int);
        int tick(int); int letter(int, int, int, int, int); int as(int, int); int told(int, int);
        int lose(int, boolean); int reread(int, int); int counts(int); int lets(int); int root(int); int tree(int);
        int days(int); int day(int, int); int evening(int); int feed(int, int); int wipe(); int text(int);
        int means(int); int law(int); int why(int); int span(int); int beside(int); int silent(); int step(int, int);
        int miss(int, int); int two(int, int); int split(int, int); int pair(int); int night(int); int fits(int);
        int falls(int, int, int); int weight(int); long odds(int, int); int best(int); int narrow(int, int);
        int judge(int, int); int next(int); int without(int, int); int note(int); int noted(int, int); int news();
        int sheet(int, int, int); long write(int, int, long); int copy(int, int, int, int, int); int image();
        int undo(); int tear(); int look(int); int status(int)""";
    private static final String[] FORBIDDEN = {"\\bthrow\\b", "\\bthrows\\b", "\\btry\\b", "\\bcatch\\b",
        "\\bsynchronized\\b", "\\bassert\\b", "->", "::", "Exact\\b", "\\bSystem\\.(?!arraycopy\\b)", "\\bprotected\\b",
        "\\brecord\\b", "\\bnative\\b", "\\bThread\\b", "\\bRandom\\b", "\\bObject\\b", "@", "\\bstatic \\{", "[^\\x00-\\x7f]"};

    private static final Set<String> LIBRARY = Set.of("Math.max", "Math.min", "Math.abs", "Integer.bitCount",
            "Arrays.fill", "Arrays.copyOf", "Arrays.copyOfRange", "System.arraycopy");

    public static void main(String[] args) throws Exception {
        publicFace();
        ownNames();
        source();
        DUE.end();
    }

    private static String signature(Method m) {
        String parameters = Arrays.stream(m.getParameterTypes()).map(Class::getName).collect(Collectors.joining(", "));
        return m.getReturnType().getName() + " " + m.getName() + "(" + parameters + ")";
    }

    private static void publicFace() {
        Set<String> due = new TreeSet<>(Arrays.asList(FACE.trim().split(";\\s+")));
        Set<String> seen = new TreeSet<>();
        for (Method m : ShakeLetters.class.getDeclaredMethods()) {
            if (Modifier.isPublic(m.getModifiers())) {
                seen.add(signature(m));
                DUE.is(m + " is static", Modifier.isStatic(m.getModifiers()) ? 1 : 0, 0);
            } else {
                DUE.is(m + " is private", Modifier.isPrivate(m.getModifiers()) ? 1 : 0, 1);
            }
        }
        DUE.is("53 methods are due", due.size(), 53);
        DUE.is("the face is " + seen, seen.equals(due) ? 1 : 0, 1);
        Constructor<?>[] made = ShakeLetters.class.getDeclaredConstructors();
        DUE.is("one constructor", made.length, 1);
        DUE.is("it is public", Modifier.isPublic(made[0].getModifiers()) ? 1 : 0, 1);
        DUE.is("without parameters", made[0].getParameterCount(), 0);
        int modifiers = ShakeLetters.class.getModifiers();
        DUE.is("public and final", modifiers & (Modifier.PUBLIC | Modifier.FINAL), Modifier.PUBLIC | Modifier.FINAL);
        for (Field f : ShakeLetters.class.getDeclaredFields()) {
            DUE.is(f + " is private", Modifier.isPrivate(f.getModifiers()) ? 1 : 0, 1);
        }
    }

    private static void ownNames() {
        Set<String> publicNames = new TreeSet<>();
        for (Method m : ShakeLetters.class.getMethods()) {
            publicNames.add(m.getName());
        }
        Class<?>[] inside = ShakeLetters.class.getDeclaredClasses();
        DUE.is("some twelve classes at most", inside.length <= 12 ? 1 : 0, 1);
        for (Class<?> c : inside) {
            DUE.is(c + " is static", Modifier.isStatic(c.getModifiers()) ? 1 : 0, 1);
            long fields = Arrays.stream(c.getDeclaredFields()).filter(f -> !Modifier.isStatic(f.getModifiers())).count();
            DUE.is(c + " has some twenty fields at most", fields <= 20 ? 1 : 0, 1);
            for (Method m : c.getDeclaredMethods()) {
                DUE.is(m + " bears no public name", publicNames.contains(m.getName()) ? 1 : 0, 0);
                DUE.is(m + " has seven parameters at most", m.getParameterCount() <= 7 ? 1 : 0, 1);
            }
        }
        for (Method m : ShakeLetters.class.getDeclaredMethods()) {
            if (!Modifier.isPublic(m.getModifiers())) {
                DUE.is(m + " bears no public name", publicNames.contains(m.getName()) ? 1 : 0, 0);
            }
        }
    }

    private static void source() throws Exception {
        String source = Files.readString(Path.of("src/main/java/ShakeLetters.java"));
        String code = source.replaceAll("(?s)/\\*.*?\\*/", "").replaceAll("//[^\n]*", "");
        for (String word : FORBIDDEN) {
            Matcher m = Pattern.compile(word).matcher(code);
            DUE.is("the source has " + word, m.find() ? 1 : 0, 0);
        }
        Matcher imports = Pattern.compile("import ([\\w.]+);").matcher(code);
        while (imports.find()) {
            String name = imports.group(1);
            boolean fine = List.of("java.util.Arrays", "java.util.ArrayList", "java.util.List").contains(name);
            DUE.is("import of " + name, fine ? 1 : 0, 1);
        }
        Matcher library = Pattern.compile("\\b(Math|Integer|Long|Arrays|System)\\.(\\w+)").matcher(code);
        while (library.find()) {
            boolean fine = LIBRARY.contains(library.group());
            DUE.is("use of " + library.group(), fine ? 1 : 0, 1);
        }
        Matcher statics = Pattern.compile("static (?!final )[\\w\\[\\]]+ \\w+( =|;)").matcher(code);
        DUE.is("a static field that isn't final", statics.find() ? 1 : 0, 0);
        methodsAreShort(code);
    }

    private static void methodsAreShort(String code) {
        int since = 0;
        String indent = null;
        for (String line : code.split("\n")) {
            since++;
            if (indent == null && line.matches(" {4}( {4})?[\\w\\[\\] ]+\\(.*")) {
                since = 0;
                indent = line.substring(0, line.length() - line.stripLeading().length());
            } else if (indent != null && line.equals(indent + "}")) {
                DUE.is("a method of " + since + " lines", since <= 60 ? 1 : 0, 1);
                indent = null;
            }
        }
        DUE.is("all methods ended", indent == null ? 1 : 0, 1);
    }
}
