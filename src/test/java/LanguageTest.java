import java.lang.reflect.Field;
import java.lang.reflect.Method;
import java.lang.reflect.Modifier;
import java.nio.file.Files;
import java.nio.file.Path;
import java.util.Set;
import java.util.TreeSet;
import java.util.regex.Matcher;
import java.util.regex.Pattern;

/** What of LANGUAGE.md and of the document's face can be told by looking at the class. */
final class LanguageTest {
    private static final Path SOURCE = Path.of("src/main/java/PeatHearths.java");

    static void run(Checks c) {
        face(c);
        staticFields(c);
        words(c);
        room(c);
    }

    private static void face(Checks c) {
        c.section("the face");
        Set<String> want = new TreeSet<>(Set.of(
            "int hearth(int, boolean, int) IOOBE IAE", "int track(int, int) IOOBE IAE",
            "int strength(int, int) IOOBE IAE", "int work(int, int, int) IOOBE ISE", "int rest(int) IOOBE",
            "int give(int, int, int, int) IOOBE IAE ISE", "int snow()", "int pass(int) IAE",
            "int set(int, int) IOOBE IAE", "int append(int) IAE ISE", "int clearBuffer()", "int firstError()",
            "int play() IAE", "int undo() ISE", "int keep()", "int restore() ISE", "int hearthOf(int, int) IOOBE IAE",
            "int bankOf(int, int) IOOBE IAE", "int plot(int, int, int) IOOBE IAE", "int cutter(int, int) IOOBE IAE",
            "int rain(int) IAE", "int count(int) IAE", "int whyNot(int, int, int) IOOBE", "int ifPassed(int, int) IAE",
            "int enoughIn(int) IOOBE", "int bestBank(int, int) IOOBE", "double dryness()", "long digest()"));
        Set<String> got = new TreeSet<>();
        Set<String> publicNames = new TreeSet<>();
        Set<String> privateNames = new TreeSet<>();
        for (Method m : PeatHearths.class.getDeclaredMethods()) {
            if (Modifier.isPrivate(m.getModifiers())) {
                privateNames.add(m.getName());
            } else {
                publicNames.add(m.getName());
                got.add(told(m));
            }
        }
        c.dueTrue("methods are " + got + ", due are " + want, got.equals(want));
        for (Class<?> one : PeatHearths.class.getDeclaredClasses()) {
            for (Method m : one.getDeclaredMethods()) {
                if (Modifier.isPrivate(m.getModifiers())) {
                    privateNames.add(m.getName());
                }
            }
        }
        privateNames.retainAll(publicNames);
        c.dueTrue("private methods with public names: " + privateNames, privateNames.isEmpty());
        c.due("constructors", PeatHearths.class.getDeclaredConstructors().length, 1);
        c.due("public constructors", PeatHearths.class.getConstructors().length, 1);
        c.due("modifiers", PeatHearths.class.getModifiers(), Modifier.PUBLIC | Modifier.FINAL);
        for (Field f : PeatHearths.class.getDeclaredFields()) {
            c.dueTrue(f.getName() + " is private", f.getName().equals("NONE") || Modifier.isPrivate(f.getModifiers()));
        }
    }

    private static String told(Method m) {
        StringBuilder all = new StringBuilder(m.getReturnType() + " " + m.getName() + "(");
        for (int i = 0; i < m.getParameterCount(); i++) {
            all.append(i == 0 ? "" : ", ").append(m.getParameterTypes()[i]);
        }
        all.append(")");
        for (Class<?> e : m.getExceptionTypes()) {
            all.append(' ').append(e.getSimpleName().replaceAll("[a-z]", ""));
        }
        return Modifier.toString(m.getModifiers()).equals("public") ? all.toString() : m.toString();
    }

    private static void staticFields(Checks c) {
        c.section("LANGUAGE.md, rules 2, 5 and 11");
        Class<?>[] inside = PeatHearths.class.getDeclaredClasses();
        c.dueTrue("at most twelve classes", inside.length < 12);
        checkFields(c, PeatHearths.class);
        for (Class<?> one : inside) {
            c.dueTrue(one + " is private and static", Modifier.isPrivate(one.getModifiers())
                && Modifier.isStatic(one.getModifiers()));
            checkFields(c, one);
        }
    }

    private static void checkFields(Checks c, Class<?> one) {
        int own = 0;
        for (Field f : one.getDeclaredFields()) {
            boolean isStatic = Modifier.isStatic(f.getModifiers());
            own += isStatic ? 0 : 1;
            c.dueTrue(f + " is final", !isStatic || Modifier.isFinal(f.getModifiers()));
        }
        c.dueTrue(one + " has at most twenty fields", own <= 20);
        for (Method m : one.getDeclaredMethods()) {
            c.dueTrue(m + " is not synthetic", !m.isSynthetic());
            c.dueTrue(m + " takes at most seven", m.getParameterCount() <= 7);
        }
    }

    /** A member of the outer class stands four spaces in, one of a class inside it eight. */
    private static void lengths(Checks c, String code) {
        String outer = "    ";
        String indent = outer;
        int begin = 0;
        int methods = 0;
        String[] lines = code.split("\n", -1);
        for (int n = 0; n < lines.length; n++) {
            String line = lines[n];
            if (line.startsWith(outer + "private static final class ")) {
                indent = outer + outer;
            } else if (line.matches(indent + "[A-Za-z].*\\(.*") && !line.endsWith(";")) {
                begin = n;
            } else if (line.equals(indent + "}")) {
                methods++;
                c.dueTrue("at most sixty lines: " + lines[begin].trim(), n - begin < 60);
            } else if (line.equals(outer + "}")) {
                indent = outer;
            }
        }
        c.due("methods and constructors whose lines are counted", methods, methodsAndConstructors());
    }

    private static int methodsAndConstructors() {
        int many = PeatHearths.class.getDeclaredMethods().length + PeatHearths.class.getDeclaredConstructors().length;
        for (Class<?> one : PeatHearths.class.getDeclaredClasses()) {
            many += one.getDeclaredMethods().length;
        }
        // Land and Shelf write a constructor of their own, Text has none.
        return many + 2;
    }

    private static void words(Checks c) {
        c.section("LANGUAGE.md, words");
        String text;
        try {
            text = Files.readString(SOURCE);
        } catch (java.io.IOException e) {
            c.fail("cannot read " + SOURCE);
            return;
        }
        String code = text.replaceAll("/\\*(?s:.*?)\\*/", " ").replaceAll("//[^\n]*", " ")
            .replaceAll("\"(?:[^\"\\\\]|\\\\.)*\"", "\"\"");
        String[] none = {"->", "::", "\\bcatch\\b", "\\bfinally\\b", "\\bimport\\b", "\\bpackage\\b", "\\bsynchronized\\b",
            "\\bassert\\b", "\\binstanceof\\b", "\\bwhile\\b", "\\bfloat\\b", "Exact\\b", "\\bDouble\\b", "\\bSystem\\b",
            "\\bprotected\\b", "\\bvar\\b", "\\bnull\\b", "\\bstatic \\{"};
        for (String word : none) {
            c.dueTrue("the source has " + word, !Pattern.compile(word).matcher(code).find());
        }
        lengths(c, code);
        for (char sign : text.toCharArray()) {
            c.dueTrue("the source is ASCII", sign < 128);
        }
        // Nothing is made but for fields and by throw, so that a call needs no room.
        Matcher made = Pattern.compile("[^\n]*\\bnew\\b[^\n]*").matcher(code);
        while (made.find()) {
            String line = made.group().trim();
            c.dueTrue("made in a call: " + line, line.startsWith("private final ") || line.startsWith("this.")
                || line.startsWith("throw new "));
        }
    }

    /** What 512 of the dearest calls make, with what the machine itself makes for a few of them left out. */
    private static void room(Checks c) {
        c.section("room");
        java.lang.management.ThreadMXBean bean = java.lang.management.ManagementFactory.getThreadMXBean();
        if (!(bean instanceof com.sun.management.ThreadMXBean)) {
            return;
        }
        com.sun.management.ThreadMXBean threads = (com.sun.management.ThreadMXBean) bean;
        PeatHearths x = new PeatHearths();
        x.work(0, 0, 1);
        x.digest();
        long id = Thread.currentThread().getId();
        threads.getThreadAllocatedBytes(id);
        long before = threads.getThreadAllocatedBytes(id);
        long sum = 0;
        for (int n = 0; n < 250; n++) {
            sum += x.digest() + x.pass(1);
        }
        long bytes = threads.getThreadAllocatedBytes(id) - before;
        c.dueTrue("500 calls make " + bytes + " bytes (" + sum + ")", bytes < 20000);
    }
}
