import java.lang.reflect.Field;
import java.lang.reflect.Method;
import java.lang.reflect.Modifier;
import java.nio.file.Files;
import java.nio.file.Path;
import java.util.ArrayList;
import java.util.Arrays;
import java.util.List;
import java.util.TreeSet;
import java.util.regex.Matcher;
import java.util.regex.Pattern;

/** The rules of LANGUAGE.md that can be seen in the source or by reflection, and the public face. */
public final class LanguageTest {
    private static final String[] FACE = {"letter(int)", "blank()", "fault()", "crew()", "actor(int,int)",
        "box(int,int,int)", "as(int,int)", "send(int,int)", "tick(int)", "fell(int)", "raise(int)", "tie(int,int)",
        "cut(int,int)", "be(int,int)", "round(int)", "see(int,int,boolean)", "forget()", "drawn(int,int,int)",
        "image()", "restore()", "count(int)", "digest()"};
    private static final String[] CONSTANTS = {"NONE -1", "UNKNOWN -101", "OUTSIDE -102", "STATE -103", "FULL -104"};
    private static final String[] RULED_OUT = {"\\b(throw|throws|try|catch|finally|synchronized|assert|import|package)\\b",
        "->", "::", "\\bstatic\\s*\\{", "\\bException\\b", "\\bRandom\\b", "\\bSystem\\.(?!arraycopy)", "Exact\\b",
        "\\b(hashCode|toString|getClass)\\b", "\\bthis\\b(?!\\.)", "\\?\\s*>", "@"};

    private static final List<String> STATIC_TYPES =
            List.of("int", "long", "boolean", "char", "String", "int[]", "long[]", "char[]", "byte[]");

    private static int wrong = 0;

    public static void main(String[] args) throws Exception {
        face();
        size();
        source();
        System.out.println("LanguageTest: " + wrong + " wrong");
        if (wrong != 0) {
            System.exit(1);
        }
    }

    private static void due(String what, Object got, Object want) {
        if (!got.equals(want)) {
            wrong++;
            System.out.println("LanguageTest: " + what + " is " + got + ", due is " + want);
        }
    }

    private static void face() throws Exception {
        Class<LetterCrew> c = LetterCrew.class;
        due("the class's modifiers", c.getModifiers(), Modifier.PUBLIC | Modifier.FINAL);
        List<String> seen = new ArrayList<>();
        TreeSet<String> hidden = new TreeSet<>();
        TreeSet<String> shown = new TreeSet<>();
        for (Method m : c.getDeclaredMethods()) {
            if (Modifier.isPrivate(m.getModifiers())) {
                hidden.add(m.getName());
            } else {
                String text = m.toString();
                seen.add(m.getName() + text.substring(text.indexOf('(')));
                shown.add(m.getName());
                due("what " + m.getName() + " answers", m.getReturnType().getName(),
                        m.getName().equals("digest") ? "long" : "int");
            }
        }
        due("the methods", new TreeSet<>(seen), new TreeSet<>(Arrays.asList(FACE)));
        for (Class<?> inside : c.getDeclaredClasses()) {
            due(inside + " is static", Modifier.isStatic(inside.getModifiers()), true);
            for (Method m : inside.getDeclaredMethods()) {
                hidden.add(m.getName());
            }
        }
        hidden.retainAll(shown);
        due("the names that are public ones, too", hidden, new TreeSet<String>());
        TreeSet<String> constants = new TreeSet<>();
        for (Field f : c.getDeclaredFields()) {
            if (!Modifier.isPrivate(f.getModifiers())) {
                constants.add(f.getName() + " " + f.getInt(null));
            }
        }
        due("the constants", constants, new TreeSet<>(Arrays.asList(CONSTANTS)));
        due("the constructors", c.getDeclaredConstructors().length, 1);
    }

    /** Rule 11, and rule 5: no static field but constants. */
    private static void size() {
        List<Class<?>> all = new ArrayList<>(Arrays.asList(LetterCrew.class.getDeclaredClasses()));
        all.add(LetterCrew.class);
        for (Class<?> c : all) {
            int fields = 0;
            for (Field f : c.getDeclaredFields()) {
                boolean isStatic = Modifier.isStatic(f.getModifiers());
                fields += isStatic ? 0 : 1;
                due(f + " is final or an object's", !isStatic || Modifier.isFinal(f.getModifiers()), true);
                due(f + " is a constant or an object's",
                        !isStatic || STATIC_TYPES.contains(f.getType().getSimpleName()), true);
            }
            due(c + " has at most twenty fields", fields <= 20, true);
            for (Method m : c.getDeclaredMethods()) {
                due(m + " takes at most seven", m.getParameterCount() <= 7, true);
            }
        }
    }

    /** The lines of the longest method, by the indents of its first and last line. */
    private static int longestMethod(String code) {
        Matcher m = Pattern.compile("(?m)^( {4}| {8})(?!.*\\bclass\\b)\\S.*\\) \\{\n((?:\\1 +.*\n|\n)*)\\1\\}").matcher(code);
        int longest = 0;
        while (m.find()) {
            longest = Math.max(longest, (int) m.group(2).lines().count());
        }
        return longest;
    }

    private static void source() throws Exception {
        String source = Files.readString(Path.of("src/main/java/LetterCrew.java"));
        String code = source.replaceAll("(?s)/\\*.*?\\*/", " ").replaceAll("//[^\n]*", " ").replaceAll("'.'|\"[^\"]*\"", "0");
        for (String pattern : RULED_OUT) {
            Matcher m = Pattern.compile(pattern).matcher(code);
            due("the find of " + pattern, m.find() ? code.substring(m.start(), m.end()) : "none", "none");
        }
        due("the classes are at most twelve", Pattern.compile("\\bclass\\b").matcher(code).results().count() <= 12, true);
        int longest = longestMethod(source);
        due("the longest method has " + longest + " lines, some sixty at most", longest > 5 && longest <= 60, true);
        due("all signs are plain", source.chars().allMatch(s -> s == '\n' || (s >= 32 && s < 127)), true);
    }
}
