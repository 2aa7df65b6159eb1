import java.lang.management.ManagementFactory;
import java.lang.reflect.Constructor;
import java.lang.reflect.Field;
import java.lang.reflect.Method;
import java.lang.reflect.Modifier;
import java.nio.charset.StandardCharsets;
import java.nio.file.Files;
import java.nio.file.Path;
import java.util.ArrayList;
import java.util.Arrays;
import java.util.HashSet;
import java.util.List;
import java.util.Set;
import java.util.TreeSet;
import java.util.regex.Matcher;
import java.util.regex.Pattern;

// The face that the document tells, and the rules of ../shared/LANGUAGE.md that a test can see.
public final class LanguageTest {
    private static final String FILE = "src/main/java/SmokeTalk.java";

    private static final String[] FACE = {
        "int type(long, int)", "int clear()", "int valley()", "int house(int, int)", "int dish(int, int)",
        "int cook(int, int)", "int undo()", "int gives(int, int, int, int)", "int burns(int)",
        "int plume(int, int)", "int fog(int)", "int says(int, int, int, int, int)",
        "int nearest(int, int, int, int)", "int reads(int, int)", "int means(int)",
        "long chain(int, int, int)", "int who(int, int, int)", "int days(int)", "int code(int, int, int)",
        "int feast(int, int)", "int silent(int)", "int drawn(int)", "int lot(int)", "int mark(int, int)",
        "int keep(int)", "int back(int)", "int count(int)", "long trace()",
    };

    private static final String[] FORBIDDEN = {
        "throw", "throws", "try", "catch", "finally", "synchronized", "assert", "import", "package",
        "protected", "volatile", "native", "goto", "var", "Object", "System", "Thread", "Random", "Exact",
        "Iterator", "Map", "Set", "Exception", "Error", "equals", "hashCode", "toString", "double", "float",
    };

    public static void main(String[] args) throws Exception {
        face();
        members();
        classesInside();
        source(Files.readString(Path.of(FILE), StandardCharsets.ISO_8859_1));
        callsMakeNothing();
        anObjectIsSmall();
        Checks.end();
    }

    private static String told(Method m) {
        StringBuilder text = new StringBuilder(m.getReturnType() + " " + m.getName() + "(");
        for (Class<?> c : m.getParameterTypes()) {
            if (text.charAt(text.length() - 1) != '(') text.append(", ");
            text.append(c);
        }
        return text.append(")").toString();
    }

    private static void face() {
        Set<String> methods = new TreeSet<>();
        for (Method m : SmokeTalk.class.getDeclaredMethods()) {
            if (Modifier.isPublic(m.getModifiers())) methods.add(told(m));
        }
        Checks.holds("the public methods are " + methods, methods.equals(new TreeSet<>(Arrays.asList(FACE))));
        Set<String> fields = new TreeSet<>();
        for (Field f : SmokeTalk.class.getFields()) fields.add(f.getType() + " " + f.getName());
        Set<String> constants = Set.of("int BAD", "int STATE", "int FULL", "int NONE", "int NO");
        Checks.holds("the constants are " + fields, fields.equals(new TreeSet<>(constants)));
        Constructor<?>[] made = SmokeTalk.class.getDeclaredConstructors();
        Checks.holds("one public constructor", made.length == 1 && Modifier.isPublic(made[0].getModifiers()));
        Checks.due("without parameters", made[0].getParameterCount(), 0);
        Checks.holds("final and public", SmokeTalk.class.getModifiers() == (Modifier.PUBLIC | Modifier.FINAL));
    }

    private static void members() {
        Set<String> open = new HashSet<>();
        for (Method m : SmokeTalk.class.getDeclaredMethods()) {
            if (Modifier.isPublic(m.getModifiers())) open.add(m.getName());
        }
        List<Class<?>> all = new ArrayList<>(List.of(SmokeTalk.class.getDeclaredClasses()));
        all.add(SmokeTalk.class);
        for (Class<?> c : all) {
            int changing = 0;
            for (Method m : c.getDeclaredMethods()) {
                Checks.holds(m + ": at most seven parameters", m.getParameterCount() <= 7);
                boolean ofTheFace = c == SmokeTalk.class && Modifier.isPublic(m.getModifiers());
                Checks.holds(m + ": no name of the face", ofTheFace || !open.contains(m.getName()));
                if (c == SmokeTalk.class && !ofTheFace) {
                    Checks.holds(m + ": private", Modifier.isPrivate(m.getModifiers()));
                }
            }
            for (Field f : c.getDeclaredFields()) {
                int mods = f.getModifiers();
                if (!Modifier.isStatic(mods)) changing++;
                Checks.holds(f + ": final if static", !Modifier.isStatic(mods) || Modifier.isFinal(mods));
                if (c == SmokeTalk.class && !Modifier.isPublic(mods)) {
                    Checks.holds(f + ": private", Modifier.isPrivate(mods));
                }
            }
            Checks.holds(c + ": at most twenty fields", changing <= 20);
        }
    }

    private static void classesInside() {
        Class<?>[] inside = SmokeTalk.class.getDeclaredClasses();
        Checks.holds("at most twelve classes", inside.length < 12);
        for (Class<?> c : inside) {
            Checks.holds(c + ": static", Modifier.isStatic(c.getModifiers()));
            Checks.holds(c + ": not of the face", (c.getModifiers() & (Modifier.PUBLIC | Modifier.PROTECTED)) == 0);
            Checks.due(c + ": classes inside it", c.getDeclaredClasses().length, 0);
        }
    }

    private static void source(String text) {
        boolean plain = true;
        for (char c : text.toCharArray()) plain &= c == '\n' || c >= ' ' && c < 127;
        Checks.holds("signs of ASCII alone", plain);
        String code = text.replaceAll("(?s)/\\*.*?\\*/", "").replaceAll("//[^\n]*", "").replaceAll("\"[^\"\n]*\"", "\"\"");
        for (String word : FORBIDDEN) {
            String start = word.equals("Exact") ? "" : "\\b";
            Checks.holds("no " + word, !Pattern.compile(start + word + "\\b").matcher(code).find());
        }
        Checks.holds("no lambda", !code.contains("->"));
        Checks.holds("no method reference", !code.contains("::"));
        Checks.holds("no annotation", !code.contains("@"));
        Checks.holds("no loop without a bound", !code.contains("while (true)") && !code.contains("for (;;)"));
        Checks.holds("no texts joined by +", !code.contains("\" +") && !code.contains("+ \""));
        methodsAreShort(code.split("\n"));
        newInConstructorsAlone(code.split("\n"));
    }

    // A method's head stands four or eight signs in, and its end is a lone } as far in.
    private static final Pattern HEAD = Pattern.compile("^( {4}| {8})(?!private static final class|static final|switch|for|if|while|else)[A-Za-z][^;=]*\\) \\{$");

    private static int endOf(String[] lines, int head, String margin) {
        for (int i = head + 1; i < lines.length; i++) {
            if (lines[i].equals(margin + "}")) return i;
        }
        return lines.length;
    }

    private static void methodsAreShort(String[] lines) {
        int methods = 0;
        for (int i = 0; i < lines.length; i++) {
            Matcher head = HEAD.matcher(lines[i]);
            if (!head.find()) continue;
            methods++;
            Checks.holds(lines[i].trim() + " is short", endOf(lines, i, head.group(1)) - i < 60);
        }
        Checks.holds("methods were found: " + methods, methods > 60);
    }

    // Rows are made with the object and used again: no call makes one.
    private static void newInConstructorsAlone(String[] lines) {
        Pattern constructor = Pattern.compile("^( {4}public | {8})[A-Z]\\w*\\([^)]*\\) \\{$");
        int end = -1;
        for (int i = 0; i < lines.length; i++) {
            Matcher head = constructor.matcher(lines[i]);
            if (head.find()) end = endOf(lines, i, lines[i].startsWith("        ") ? "        " : "    ");
            Checks.holds("line " + (i + 1) + " makes nothing in a call", i < end || !lines[i].matches(".*\\bnew\\b.*"));
        }
    }

    private static long everyCall(SmokeTalk x) {
        long sum = 0;
        for (int i = -1; i < 9; i++) {
            sum += x.house(0, i) + x.dish(0, i) + x.cook(0, i) + x.undo() + x.gives(0, 1, i, 1) + x.burns(i);
            sum += x.plume(0, i) + x.fog(i) + x.says(0, 0, 1, 2, i) + x.nearest(0, 0, 1, i) + x.reads(0, i);
            sum += x.means(i) + x.chain(0, i, 0) + x.who(i, 0, 0) + x.days(i) + x.code(255, i, 1) + x.feast(255, i);
            sum += x.silent(i) + x.drawn(i) + x.lot(i) + x.mark(i, 0) + x.keep(i) + x.back(i) + x.count(i) + x.trace();
        }
        sum += x.type(0x666F6731L, 4) + x.valley() + x.clear();
        return sum;
    }

    private static long madeBy(SmokeTalk x) {
        com.sun.management.ThreadMXBean thread = (com.sun.management.ThreadMXBean) ManagementFactory.getThreadMXBean();
        long before = thread.getCurrentThreadAllocatedBytes();
        everyCall(x);
        return thread.getCurrentThreadAllocatedBytes() - before;
    }

    private static void callsMakeNothing() {
        long least = Long.MAX_VALUE;
        for (int i = 0; i < 20; i++) {
            SmokeTalk x = Checks.told("house 9 9 9 9 9; house 1 2 3 4 5; dish 1 0 0 0 0 1 0; dish 0 1 0 0 0 2 1; dish 0 0 1 0 0 4 2; fog 2;");
            madeBy(x);
            least = Math.min(least, madeBy(x));
        }
        // Asking the thread may make a little itself.
        Checks.holds("every call makes nothing: " + least + " bytes", least < 256);
    }

    private static void anObjectIsSmall() {
        com.sun.management.ThreadMXBean thread = (com.sun.management.ThreadMXBean) ManagementFactory.getThreadMXBean();
        long before = thread.getCurrentThreadAllocatedBytes();
        SmokeTalk x = new SmokeTalk();
        long made = thread.getCurrentThreadAllocatedBytes() - before;
        Checks.holds("an object is small: " + made + " bytes", made < 16384 && x.count(4) == 0);
    }
}
