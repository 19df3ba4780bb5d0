import java.io.IOException;
import java.lang.reflect.Field;
import java.lang.reflect.Method;
import java.lang.reflect.Modifier;
import java.nio.charset.StandardCharsets;
import java.nio.file.Files;
import java.nio.file.Path;
import java.util.ArrayList;
import java.util.Arrays;
import java.util.HashSet;
import java.util.List;
import java.util.Set;
import java.util.TreeSet;
import java.util.regex.Matcher;
import java.util.regex.Pattern;

/** The face of the class, and the rules of LANGUAGE.md that can be told by looking. Runs in the project's folder. */
public final class LanguageTest {
    private static final Path SOURCE = Path.of("src/main/java/FugueNotes.java");
    private static final String[] FACE = {
        "int tune(int,int,long)", "int tone(int,int)", "int side(int,int)", "int attache(int,int)", "int of(int,int)",
        "int answer(int,int)", "int set(int,int,int)", "int turn(int,int)", "int as(int,int)", "int days(int)",
        "int now(int)", "int on(int,int,int)", "int tension(int,int)", "int home(int)", "int alike()",
        "int again(int)", "int key(int)", "int kind(int)", "int blot(int,int)", "int calm(int,int,int)", "int swap()",
        "int keys(int,int)", "int feed(int,int)", "int wipe()", "int affair()", "int sheet(int,int,int)",
        "long write(int,int,long)", "int copy(int,int,int,int,int)", "int lays(int,int)", "int book(int,int)",
        "int read(int,int)", "int image()", "int undo()", "int tear()", "int count(int)", "int status(int)",
    };
    /** Of what rule 4 lists, what the class needs: another one of the list may be put here. */
    private static final Set<String> LIBRARY =
            Set.of("Math.min", "Math.max", "Math.abs", "Math.floorMod", "Integer.bitCount", "System.arraycopy");
    private static final Set<String> STATICS =
            Set.of("int", "long", "boolean", "char", "String", "int[]", "long[]", "char[]", "byte[]");
    private static final Due due = new Due();

    public static void main(String[] args) throws IOException {
        face();
        for (Class<?> c : classes()) {
            members(c);
        }
        source(new String(Files.readAllBytes(SOURCE), StandardCharsets.ISO_8859_1));
        due.end();
    }

    private static void holds(String what, boolean so) {
        due.holds(what, so);
    }

    private static List<Class<?>> classes() {
        List<Class<?>> all = new ArrayList<>();
        all.add(FugueNotes.class);
        all.addAll(Arrays.asList(FugueNotes.class.getDeclaredClasses()));
        return all;
    }

    private static String say(Method m) {
        List<String> types = new ArrayList<>();
        for (Class<?> type : m.getParameterTypes()) {
            types.add(type.getName());
        }
        return m.getReturnType().getName() + " " + m.getName() + "(" + String.join(",", types) + ")";
    }

    private static void face() {
        holds("public final", FugueNotes.class.getModifiers() == (Modifier.PUBLIC | Modifier.FINAL));
        due.is("constructors", FugueNotes.class.getDeclaredConstructors().length, 1);
        due.is("public constructors", FugueNotes.class.getConstructors().length, 1);
        Set<String> open = new TreeSet<>();
        for (Method m : FugueNotes.class.getDeclaredMethods()) {
            if (!Modifier.isPrivate(m.getModifiers())) {
                holds(m + " is a public method of an object", m.getModifiers() == Modifier.PUBLIC);
                open.add(say(m));
            }
        }
        holds("the face is " + open, open.equals(new TreeSet<>(Arrays.asList(FACE))));
        for (Field f : FugueNotes.class.getDeclaredFields()) {
            holds(f + " is private", Modifier.isPrivate(f.getModifiers()));
        }
        holds("at most twelve classes", classes().size() <= 12);
    }

    private static void members(Class<?> c) {
        Set<String> names = new HashSet<>();
        for (String call : FACE) {
            names.add(call.substring(call.indexOf(' ') + 1, call.indexOf('(')));
        }
        if (c != FugueNotes.class) {
            holds(c + " is static", Modifier.isStatic(c.getModifiers()));
            holds(c + " is not open", !Modifier.isPublic(c.getModifiers()) && !Modifier.isProtected(c.getModifiers()));
        }
        for (Method m : c.getDeclaredMethods()) {
            holds(m + " bears a name of its own", Modifier.isPublic(m.getModifiers()) || !names.contains(m.getName()));
            holds(m + " takes at most seven", m.getParameterCount() <= 7);
        }
        int own = 0;
        for (Field f : c.getDeclaredFields()) {
            boolean isStatic = Modifier.isStatic(f.getModifiers());
            own += isStatic ? 0 : 1;
            holds(f + " is final if static", !isStatic || Modifier.isFinal(f.getModifiers()));
            holds(f + " is a constant if static", !isStatic || STATICS.contains(f.getType().getSimpleName()));
        }
        holds(c + " has at most twenty fields", own <= 20);
    }

    private static void source(String text) {
        for (int i = 0; i < text.length(); i++) {
            if (text.charAt(i) > 126 || text.charAt(i) < 32 && text.charAt(i) != '\n') {
                holds("sign " + (int) text.charAt(i) + " at " + i, false);
            }
        }
        String code = text.replaceAll("(?s)/\\*.*?\\*/", "").replaceAll("//[^\n]*", "").replaceAll("\"[^\"\n]*\"", "\"\"");
        String[] ruledOut = {
            "\\bthrow\\b", "\\btry\\b", "\\bcatch\\b", "\\bsynchronized\\b", "\\bassert\\b", "->", "::", "\\bvar\\b",
            "\\bpackage\\b", "\\bimport\\b", "Exact\\b", "\\bhashCode\\b", "\\bSystem\\.(?!arraycopy\\b)", "\\bdouble\\b",
            "\\bfloat\\b", "\\bjava\\.", "\"\\s*\\+", "\\+\\s*\"",
        };
        for (String rule : ruledOut) {
            Matcher m = Pattern.compile(rule).matcher(code);
            holds("nothing of " + rule, !m.find());
        }
        library(code);
        shortMethods(code);
    }

    /** A name with a great letter ahead of a point, or behind "new", is the library's or that of a class inside. */
    private static void library(String code) {
        Set<String> own = new HashSet<>(Set.of("int", "long"));
        for (Class<?> c : classes()) {
            own.add(c.getSimpleName());
        }
        Matcher called = Pattern.compile("\\b([A-Z]\\w*)\\.(\\w+)\\(").matcher(code);
        while (called.find()) {
            String call = called.group(1) + "." + called.group(2);
            holds(call + " may be called", LIBRARY.contains(call) || own.contains(called.group(1)));
        }
        Matcher made = Pattern.compile("\\bnew (\\w+)").matcher(code);
        while (made.find()) {
            holds(made.group() + " may be made", own.contains(made.group(1)));
        }
    }

    /** A method of the file begins at 4 or 8 blanks and ends with a brace at as many. */
    private static void shortMethods(String code) {
        Matcher m = Pattern.compile("(?m)^( {4}| {8})\\w[^=;\\n]*\\([^;\\n]*\\) \\{\\n(?s:(.*?))\\n\\1\\}$").matcher(code);
        int methods = 0;
        while (m.find()) {
            methods++;
            holds("short: " + m.group().split("\n")[0].trim(), m.group().split("\n").length <= 60);
        }
        holds("methods were found", methods > 36);
    }
}
