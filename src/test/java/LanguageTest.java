import java.lang.reflect.Constructor;
import java.lang.reflect.Field;
import java.lang.reflect.Method;
import java.lang.reflect.Modifier;
import java.nio.file.Files;
import java.nio.file.Path;
import java.util.ArrayList;
import java.util.List;
import java.util.Set;
import java.util.TreeSet;
import java.util.regex.Matcher;
import java.util.regex.Pattern;

/** Looks at the class and its source for what LANGUAGE.md rules out; it can not see all of it. */
public final class LanguageTest {
    private static final Path SOURCE = Path.of("src/main/java/LastMatches.java");
    private static final String FACE = "int clearing(int,int);int carry(int,int);int match(int,int,int);int stick(int,int);"
        + "int stump(int);int clean(int);int type(int);int clear();int read();int strike(boolean,boolean);int ready();"
        + "int undo();int of(int,int);int chance(int,int);int best();int rule(int);int bestRule();int split();int both();"
        + "int candle(int);int waits(int,int,int);int whose(int);int laid(int,int);int order(int,int);"
        + "int feed(int,int,int,int,int);int stumps(int);int winds(int,int,int,int);int evenings(int,int);long part(int);"
        + "int image(int);int from(int);int status(int);int count(int);long digest();";
    private static int wrong = 0;

    private static void look(boolean good, String what) {
        if (!good) {
            wrong++;
            System.out.println(what);
        }
    }

    public static void main(String[] args) throws Exception {
        face();
        for (Class<?> inside : LastMatches.class.getDeclaredClasses()) {
            inside(inside);
        }
        look(LastMatches.class.getDeclaredClasses().length <= 11, "more than twelve classes");
        source(Files.readString(SOURCE));
        System.out.println(wrong == 0 ? "nothing against the rules was found" : wrong + " against the rules");
        if (wrong != 0) {
            System.exit(1);
        }
    }

    private static String shape(Method m) {
        List<String> types = new ArrayList<>();
        for (Class<?> type : m.getParameterTypes()) {
            types.add(type.getSimpleName());
        }
        return m.getReturnType().getSimpleName() + " " + m.getName() + "(" + String.join(",", types) + ")";
    }

    private static void face() {
        Class<?> c = LastMatches.class;
        look(Modifier.isFinal(c.getModifiers()) && Modifier.isPublic(c.getModifiers()), "1: public and final");
        Set<String> due = new TreeSet<>(List.of(FACE.split(";")));
        Set<String> there = new TreeSet<>();
        Set<String> names = new TreeSet<>();
        for (Method m : c.getDeclaredMethods()) {
            if (Modifier.isPublic(m.getModifiers())) {
                there.add(shape(m));
                names.add(m.getName());
            } else {
                look(Modifier.isPrivate(m.getModifiers()), "1: " + m + " is neither public nor private");
            }
        }
        look(there.equals(due), "1: the public methods are " + there);
        for (Method m : c.getDeclaredMethods()) {
            look(Modifier.isPublic(m.getModifiers()) || !names.contains(m.getName()), "1: private, a public one's name: " + m);
        }
        Set<String> constants = new TreeSet<>();
        for (Field f : c.getDeclaredFields()) {
            if (Modifier.isPublic(f.getModifiers())) {
                constants.add(f.getName());
            } else {
                look(Modifier.isPrivate(f.getModifiers()), "1: " + f + " is neither public nor private");
            }
            staticIsFinal(f);
        }
        look(constants.equals(Set.of("NONE", "BAD", "NO", "FULL")), "1: the public constants are " + constants);
        Constructor<?>[] made = c.getDeclaredConstructors();
        look(made.length == 1 && Modifier.isPublic(made[0].getModifiers()) && made[0].getParameterCount() == 0, "1: constructors");
    }

    private static void staticIsFinal(Field f) {
        look(!Modifier.isStatic(f.getModifiers()) || Modifier.isFinal(f.getModifiers()), "5: static, not final: " + f);
    }

    private static void inside(Class<?> c) {
        int flags = c.getModifiers();
        look(Modifier.isStatic(flags) && !Modifier.isPublic(flags) && !Modifier.isProtected(flags), "2: " + c);
        int fields = 0;
        for (Field f : c.getDeclaredFields()) {
            staticIsFinal(f);
            fields += Modifier.isStatic(f.getModifiers()) ? 0 : 1;
        }
        look(fields <= 20, "11: " + c + " has " + fields + " fields");
        for (Method m : c.getDeclaredMethods()) {
            look(m.getParameterCount() <= 7, "11: parameters of " + m);
            look(!FACE.contains(" " + m.getName() + "("), "1: a public one's name: " + m);
        }
    }

    private static void source(String text) {
        look(text.chars().allMatch(c -> c == '\n' || c >= 32 && c < 127), "3: a sign beyond 126");
        String bare = text.replaceAll("(?s)/\\*.*?\\*/", "").replaceAll("//[^\n]*", "")
            .replaceAll("\"[^\"]*\"", "\"\"").replaceAll("'[^']*'", "0");
        String[] none = {"\\bthrow\\b", "\\bthrows\\b", "\\btry\\b", "\\bcatch\\b", "\\bsynchronized\\b", "\\bassert\\b",
            "\\bpackage\\b", "\\bimport\\b", "->", "::", "@", "Exact\\(", "\\bvar\\b", "\\.\\.\\.", "static \\{",
            "\\bhashCode\\b", "\\btoString\\b", "\\bvolatile\\b", "\\bnative\\b", "\\bThread\\b", "System\\.(?!arraycopy)",
            "Math\\.(?!max|min|abs)", "\"\" *\\+", "\\+ *\"\""};
        for (String sign : none) {
            Matcher m = Pattern.compile(sign).matcher(bare);
            look(!m.find(), "the source has " + sign);
        }
        int since = 0;
        int line = 0;
        String head = "";
        for (String each : text.split("\n")) {
            line++;
            if (each.matches(" {4}( {4})?[a-zA-Z].*\\) \\{")) {
                since = line;
                head = each.trim();
            } else if (since > 0 && each.matches(" {4}( {4})?\\}")) {
                look(line - since <= 60, "11: " + (line - since) + " lines in " + head);
                since = 0;
            }
        }
    }
}
