import java.io.IOException;
import java.lang.reflect.InvocationTargetException;
import java.lang.reflect.Method;
import java.lang.reflect.Modifier;
import java.nio.file.Files;
import java.nio.file.Path;
import java.util.ArrayList;
import java.util.List;
import java.util.Locale;
import java.util.Set;
import java.util.TreeSet;
import java.util.regex.Matcher;
import java.util.regex.Pattern;
import java.util.stream.Stream;

/** README.md is read, so that it can't say what the class does not do. Runs in the project's folder. */
public final class ReadmeTest {
    private static final Path README = Path.of("README.md");
    private static final Path TESTS = Path.of("src/test/java");
    private static final String MAKING = "FugueNotes notes = new FugueNotes();";
    private static final Pattern CALL = Pattern.compile("notes\\.(\\w+)\\(([^()]*)\\); +// (-?\\d+|[A-Z]+): \\S.*");
    private static final Pattern FINDING_ROW = Pattern.compile("\\| (-\\d+) +\\| ([A-Z]+) +\\| (\\d) +\\|.*");
    private static final Pattern KIND_ROW = Pattern.compile("\\| (\\d) +\\| ([A-Z]+) +\\| ([A-Z]*) +\\|.*");
    private static final Pattern QUOTED = Pattern.compile("\"([^\"]*)\"");
    private static final List<String> FINDINGS =
            List.of("BEYOND", "FULL", "KIND", "NONE", "STATE", "MISSING", "SIZE");
    private static final List<String> KINDS = List.of("ATTACHE", "MIRROR", "CRAB", "PEDAL", "TABLE", "TENOR");
    private static final int MOST_CALLS = 512;
    private static final Due due = new Due();

    public static void main(String[] args) throws IOException, IllegalAccessException, InvocationTargetException {
        List<String> lines = Files.readAllLines(README);
        calls(shown(lines));
        findings(lines);
        kinds(lines);
        tests(String.join("\n", lines));
        due.end();
    }

    /** The lines of all blocks of Java. */
    private static List<String> shown(List<String> lines) {
        List<String> shown = new ArrayList<>();
        boolean inside = false;
        for (String line : lines) {
            if (line.startsWith("```")) {
                inside = !inside && line.equals("```java");
            } else if (inside) {
                shown.add(line);
            }
        }
        return shown;
    }

    private static void calls(List<String> shown) throws IllegalAccessException, InvocationTargetException {
        due.holds("the calls begin with a new object", !shown.isEmpty() && shown.get(0).equals(MAKING));
        FugueNotes notes = new FugueNotes();
        Set<String> answered = new TreeSet<>();
        for (String line : shown.subList(1, shown.size())) {
            Matcher m = CALL.matcher(line);
            if (!m.matches()) {
                due.holds("a call with its answer: " + line, false);
                continue;
            }
            Method call = named(m.group(1));
            if (call == null) {
                due.holds("a call of the class: " + line, false);
                continue;
            }
            long got = ((Number) call.invoke(notes, arguments(call, m.group(2)))).longValue();
            due.is("README.md: " + line, got, answer(m.group(3)));
            if (!FINDINGS.contains(m.group(3))) {
                answered.add(call.getName());
            }
            fedAsQuoted(line, m.group(1), m.group(2));
        }
        due.holds("no more calls than an object has", shown.size() - 1 <= MOST_CALLS);
        for (Method m : FugueNotes.class.getDeclaredMethods()) {
            if (Modifier.isPublic(m.getModifiers())) {
                due.holds(m.getName() + " is shown with an answer that is no finding", answered.contains(m.getName()));
            }
        }
    }

    private static Method named(String name) {
        for (Method m : FugueNotes.class.getDeclaredMethods()) {
            if (Modifier.isPublic(m.getModifiers()) && m.getName().equals(name)) {
                return m;
            }
        }
        return null;
    }

    private static Object[] arguments(Method call, String written) {
        String[] parts = written.isEmpty() ? new String[0] : written.split(", ");
        Object[] values = new Object[parts.length];
        for (int i = 0; i < parts.length; i++) {
            if (call.getParameterTypes()[i] == long.class) {
                values[i] = Long.decode(parts[i].replace("L", ""));
            } else {
                values[i] = Integer.decode(parts[i]);
            }
        }
        return values;
    }

    private static long answer(String written) {
        int finding = FINDINGS.indexOf(written);
        return finding >= 0 ? Due.BEYOND - finding : Long.parseLong(written);
    }

    /** Where a call shows the text that it feeds, its bytes are that text. */
    private static void fedAsQuoted(String line, String call, String arguments) {
        Matcher m = QUOTED.matcher(line);
        if (!call.equals("feed") || !m.find()) {
            return;
        }
        String text = m.group(1);
        long bytes = 0;
        for (int i = 0; i < text.length(); i++) {
            bytes = bytes << 8 | text.charAt(i);
        }
        String[] parts = arguments.split(", ");
        due.is("the bytes of " + line, Integer.decode(parts[0]), bytes);
        due.is("how many bytes of " + line, Integer.decode(parts[1]), text.length());
    }

    private static void findings(List<String> lines) {
        int rows = 0;
        for (String line : lines) {
            Matcher m = FINDING_ROW.matcher(line);
            if (m.matches()) {
                due.is("the finding of " + line, Long.parseLong(m.group(1)), answer(m.group(2)));
                due.is("what status counts of " + line, Integer.parseInt(m.group(3)), FINDINGS.indexOf(m.group(2)));
                rows++;
            }
        }
        due.is("rows of findings", rows, FINDINGS.size());
    }

    /** What the table says of a kind, asked of an attache that a text tells by that name. */
    private static void kinds(List<String> lines) {
        int rows = 0;
        for (String line : lines) {
            Matcher m = KIND_ROW.matcher(line);
            if (m.matches()) {
                FugueNotes x = new FugueNotes();
                due.is("an item of " + line, Due.tell(x, m.group(2).toLowerCase(Locale.ROOT) + " of 0"), 1);
                due.is("the number of " + line, x.of(0, 0), Integer.parseInt(m.group(1)));
                due.is("the kind above of " + line, KINDS.indexOf(m.group(3)), above(x.of(0, 0)));
                rows++;
            }
        }
        due.is("rows of kinds", rows, KINDS.size());
    }

    /** The kind just above one, -1 if none: of those that it can be taken as, the one that can be taken as most. */
    private static int above(int kind) {
        int above = -1;
        for (int k = 0; k < KINDS.size(); k++) {
            boolean isNearer = above < 0 || takenAs(k) > takenAs(above);
            if (k != kind && isTakenAs(kind, k) && isNearer) {
                above = k;
            }
        }
        return above;
    }

    private static int takenAs(int kind) {
        int kinds = 0;
        for (int k = 0; k < KINDS.size(); k++) {
            kinds += isTakenAs(kind, k) ? 1 : 0;
        }
        return kinds;
    }

    private static boolean isTakenAs(int kind, int other) {
        FugueNotes x = new FugueNotes();
        return x.as(x.attache(kind, 0), other) != Due.KIND;
    }

    private static void tests(String text) throws IOException {
        try (Stream<Path> files = Files.list(TESTS)) {
            files.map(file -> file.getFileName().toString())
                    .filter(name -> name.endsWith("Test.java"))
                    .map(name -> name.substring(0, name.length() - ".java".length()))
                    .forEach(name -> due.holds(name + " is told", text.contains("`" + name + "`")));
        }
    }
}
