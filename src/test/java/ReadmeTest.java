import java.lang.reflect.Method;
import java.nio.file.Files;
import java.nio.file.Path;
import java.util.ArrayList;
import java.util.LinkedHashMap;
import java.util.List;
import java.util.Map;
import java.util.Set;
import java.util.TreeSet;
import java.util.regex.Matcher;
import java.util.regex.Pattern;

/** What README.md says of the calls: their groups, edges, refusals, and each example. */
public final class ReadmeTest {
    private static final Pattern ROW = Pattern.compile("\\| `(\\w+)\\(([^)]*)\\)` \\| ?(.*?) ?\\| (.*) \\| (.*) \\|");
    private static final Pattern GROUP = Pattern.compile("Ahead of the calls? (.*) the interface says: ---- (.*)\\.");
    private static final Pattern RANGE = Pattern.compile("(\\w+) (\\d+)\\.\\.(\\d+)");
    private static final Pattern REFUSAL = Pattern.compile("(BAD|NO|FULL) (-\\d+)( \\([^)]*\\))?");
    private static final Pattern CALL = Pattern.compile("x\\.(\\w+)\\(([^)]*)\\)(?: -> (-?\\d+))?");
    private static final Pattern JAVA = Pattern.compile("(?:\\w+ \\w+ = )?(x\\..*); *// -> (-?\\d+).*");
    private static final Pattern MANY = Pattern.compile("(\\d+) times (x\\..*\\))");
    private static final Pattern BYTES = Pattern.compile("each of \"(.*)\" x\\.type");
    private static final List<String> COUNTED = List.of("BAD", "NO", "FULL");
    private static int wrong = 0;
    private static int looked = 0;

    record Row(String name, List<String> parameters, String numbers, String refused) {
        /** BAD, NO, FULL, each with its answer. */
        Map<String, Long> refusals() {
            Map<String, Long> all = new LinkedHashMap<>();
            Matcher m = REFUSAL.matcher(refused);
            while (m.find()) {
                all.put(m.group(1), Long.parseLong(m.group(2)));
            }
            return all;
        }
    }

    private static final Map<String, Row> rows = new LinkedHashMap<>();
    private static final Set<String> shown = new TreeSet<>();
    private static LastMatches x = new LastMatches();

    private static void look(boolean good, String what) {
        looked++;
        if (!good) {
            wrong++;
            System.out.println(what);
        }
    }

    public static void main(String[] args) throws Exception {
        List<String> readme = Files.readAllLines(Path.of("README.md"));
        groups(readme, Files.readString(Path.of("../shared/DOC.md")));
        for (Row row : rows.values()) {
            edges(row);
        }
        examples(readme);
        for (Row row : rows.values()) {
            look(shown.contains(row.name() + " good"), "no example of " + row.name());
            for (String reason : row.refusals().keySet()) {
                look(shown.contains(row.name() + " " + reason), "no example of " + row.name() + " refused as " + reason);
            }
        }
        System.out.println(looked + " looks at README.md, " + wrong + " wrong");
        if (wrong != 0) {
            System.exit(1);
        }
    }

    // ---- groups and refusals, as the document has them

    private static void groups(List<String> readme, String document) {
        String told = "";
        String heading = "";
        for (String line : readme) {
            Matcher row = ROW.matcher(line);
            if (line.startsWith("### ")) {
                heading = line.substring(4).toLowerCase();
            } else if (row.matches()) {
                List<String> parameters = row.group(2).isEmpty() ? List.of() : List.of(row.group(2).split(", "));
                rows.put(row.group(1), new Row(row.group(1), parameters, row.group(3), row.group(5)));
                told += heading + ": " + row.group(1) + "\n";
            } else {
                look(!line.startsWith("| `"), "a row that can not be read: " + line);
            }
        }
        String due = "";
        Matcher group = GROUP.matcher(document);
        while (group.find()) {
            for (String name : group.group(1).replace("`", "").split(", ")) {
                due += group.group(2) + ": " + name + "\n";
            }
        }
        look(!due.isEmpty() && told.equals(due), "the groups are\n" + told + "the document's are\n" + due);
        for (Row row : rows.values()) {
            sameAsDocument(row, document);
        }
    }

    private static void sameAsDocument(Row row, String document) {
        Matcher face = Pattern.compile("public (?:int|long) " + row.name() + "\\((.*)\\);").matcher(document);
        List<String> parameters = new ArrayList<>();
        if (face.find() && !face.group(1).isEmpty()) {
            for (String each : face.group(1).split(", ")) {
                parameters.add(each.substring(each.indexOf(' ') + 1));
            }
        }
        look(parameters.equals(row.parameters()), row.name() + " takes " + parameters);
        Matcher promise = Pattern.compile("`\\w+ " + row.name() + "\\([^`]*\\)`: (.*)").matcher(document);
        String words = promise.find() ? promise.group(1) : "";
        look(!words.isEmpty(), "no promise of " + row.name());
        for (String reason : COUNTED) {
            boolean due = Pattern.compile("\\b" + reason + "\\b(?! \\(0\\)| \\(1\\)| \\(2\\))|counts as " + reason + "\\b")
                .matcher(words).find();
            look(due == row.refusals().containsKey(reason), row.name() + " and " + reason + ", in the document: " + words);
        }
        boolean ten = words.contains("BAD: -10") || words.contains("too: -10");
        look(ten == (row.refusals().getOrDefault("BAD", 0L) == -10), row.name() + " and -10, in the document: " + words);
        look(row.refusals().isEmpty() == row.refused().equals("never"), row.name() + " is refused: " + row.refused());
    }

    // ---- the edges of the numbers

    /** Nothing here is full or spent, so that each number at its edges is good alone. */
    private static LastMatches scene() {
        LastMatches scene = new LastMatches();
        for (int i = 0; i < 3; i++) {
            scene.match(i, 9, 5);
            scene.stick(1 + i, 0);
        }
        scene.image(0);
        scene.image(1);
        return scene;
    }

    private static void edges(Row row) throws Exception {
        Map<String, int[]> ranges = new LinkedHashMap<>();
        Matcher m = RANGE.matcher(row.numbers());
        while (m.find()) {
            if (row.parameters().contains(m.group(1))) {
                ranges.put(m.group(1), new int[] {Integer.parseInt(m.group(2)), Integer.parseInt(m.group(3))});
            }
        }
        for (Map.Entry<String, int[]> each : ranges.entrySet()) {
            int least = each.getValue()[0];
            int most = each.getValue()[1];
            edge(row, ranges, each.getKey(), least, true);
            edge(row, ranges, each.getKey(), most, true);
            edge(row, ranges, each.getKey(), least - 1, false);
            edge(row, ranges, each.getKey(), most + 1, false);
            edge(row, ranges, each.getKey(), Integer.MIN_VALUE, false);
            edge(row, ranges, each.getKey(), Integer.MAX_VALUE, false);
        }
        for (String parameter : row.parameters()) {
            boolean told = ranges.containsKey(parameter) || row.numbers().contains(parameter + ": ");
            look(told || row.name().equals("strike"), "nothing is said of " + parameter + " of " + row.name());
        }
    }

    private static void edge(Row row, Map<String, int[]> ranges, String parameter, int n, boolean good) throws Exception {
        List<String> arguments = new ArrayList<>();
        for (String each : row.parameters()) {
            int least = ranges.containsKey(each) ? ranges.get(each)[0] : 0;
            arguments.add(Integer.toString(each.equals(parameter) ? n : least));
        }
        LastMatches scene = scene();
        long answer = call(scene, row.name(), arguments);
        String what = row.name() + arguments + " answered " + answer;
        look(scene.status(0) == (good ? 0 : 1), what + ", as BAD " + scene.status(0) + " times");
        look(good || answer == row.refusals().getOrDefault("BAD", 0L), what);
    }

    // ---- the examples

    private static void examples(List<String> readme) throws Exception {
        String inside = "";
        for (String line : readme) {
            if (line.startsWith("```")) {
                inside = line.substring(3);
            } else if (inside.equals("text")) {
                example(line);
            } else if (inside.equals("java")) {
                example(JAVA.matcher(line).replaceFirst("$1 -> $2").replaceFirst("^LastMatches (x = .*);", "$1"));
            }
        }
    }

    private static void example(String line) throws Exception {
        Matcher many = MANY.matcher(line);
        Matcher bytes = BYTES.matcher(line);
        if (line.equals("x = new LastMatches()")) {
            x = new LastMatches();
        } else if (many.matches()) {
            for (int i = 0; i < Integer.parseInt(many.group(1)); i++) {
                once(many.group(2));
            }
        } else if (bytes.matches()) {
            for (char each : bytes.group(1).toCharArray()) {
                once("x.type(" + (int) each + ")");
            }
        } else {
            look(line.contains(" -> "), "an example without its answer: " + line);
            once(line);
        }
    }

    private static void once(String line) throws Exception {
        Matcher m = CALL.matcher(line);
        if (!m.matches() || !rows.containsKey(m.group(1))) {
            look(false, "an example that can not be run: " + line);
            return;
        }
        int[] ahead = refused();
        long answer = call(x, m.group(1), m.group(2).isEmpty() ? List.of() : List.of(m.group(2).split(", ")));
        look(m.group(3) == null || answer == Long.parseLong(m.group(3)), line + " answered " + answer);
        int[] then = refused();
        String how = "good";
        for (int i = 0; i < COUNTED.size(); i++) {
            if (then[i] != ahead[i]) {
                how = COUNTED.get(i);
                Long told = rows.get(m.group(1)).refusals().get(how);
                look(then[i] == ahead[i] + 1 && told != null && told == answer, line + " is refused as " + how);
                look(m.group(3) != null, "an example that tells no answer is refused: " + line);
            }
        }
        shown.add(m.group(1) + " " + how);
    }

    private static int[] refused() {
        return new int[] {x.status(0), x.status(1), x.status(2)};
    }

    private static long call(LastMatches on, String name, List<String> arguments) throws Exception {
        for (Method method : LastMatches.class.getMethods()) {
            if (method.getName().equals(name) && method.getParameterCount() == arguments.size()) {
                Object[] values = new Object[arguments.size()];
                for (int i = 0; i < values.length; i++) {
                    boolean yesOrNo = method.getParameterTypes()[i] == boolean.class;
                    values[i] = yesOrNo ? (Object) Boolean.valueOf(arguments.get(i)) : Integer.valueOf(arguments.get(i));
                }
                return ((Number) method.invoke(on, values)).longValue();
            }
        }
        look(false, "the class has no " + name + arguments);
        return 0;
    }
}
