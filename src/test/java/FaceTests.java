import java.io.IOException;
import java.lang.management.ManagementFactory;
import java.lang.reflect.Constructor;
import java.lang.reflect.Field;
import java.lang.reflect.Method;
import java.lang.reflect.Modifier;
import java.nio.file.Files;
import java.nio.file.Path;
import java.util.ArrayList;
import java.util.List;
import java.util.TreeSet;
import java.util.regex.Matcher;
import java.util.regex.Pattern;

/** The public face, the rules of the language that can be seen from outside, and the room that calls take. */
public final class FaceTests {
    private static int wrong = 0;

    private static void check(boolean good, String what) {
        if (!good) {
            wrong++;
            System.out.println("not so: " + what);
        }
    }

    private static void face() {
        String[] due = {
            "public int ClauseCourt.feed(int,int,int,int,int)",
            "public int ClauseCourt.formula(int) throws java.lang.IllegalArgumentException",
            "public int ClauseCourt.proof(int,boolean) throws java.lang.IllegalArgumentException",
            "public int ClauseCourt.fault(int) throws java.util.NoSuchElementException",
            "public int ClauseCourt.weigh(boolean,boolean,boolean,int) throws java.lang.IllegalArgumentException",
            "public int ClauseCourt.count(int) throws java.util.NoSuchElementException",
            "public int ClauseCourt.clause(int,int) throws java.util.NoSuchElementException",
            "public int ClauseCourt.step(int,int) throws java.util.NoSuchElementException",
            "public int ClauseCourt.hint(int,int) throws java.util.NoSuchElementException",
            "public int ClauseCourt.shorter()",
            "public int ClauseCourt.out(int) throws java.util.NoSuchElementException",
            "public int ClauseCourt.takeShorter()",
        };
        TreeSet<String> names = new TreeSet<>();
        TreeSet<String> found = new TreeSet<>();
        for (Method method : ClauseCourt.class.getDeclaredMethods()) {
            if (Modifier.isPublic(method.getModifiers())) {
                found.add(method.toString());
                names.add(method.getName());
            } else {
                check(Modifier.isPrivate(method.getModifiers()), method + " is private");
            }
        }
        check(found.equals(new TreeSet<>(List.of(due))), "the public methods are " + found);
        List<Class<?>> classes = new ArrayList<>(List.of(ClauseCourt.class.getDeclaredClasses()));
        check(classes.size() + 1 <= 12, "at most twelve classes");
        check(Modifier.isFinal(ClauseCourt.class.getModifiers()), "the class is final");
        Constructor<?>[] constructors = ClauseCourt.class.getDeclaredConstructors();
        check(constructors.length == 1 && Modifier.isPublic(constructors[0].getModifiers()), "one public constructor");
        for (Field field : ClauseCourt.class.getDeclaredFields()) {
            check(field.getName().equals("NONE") == Modifier.isPublic(field.getModifiers())
                    && (Modifier.isPublic(field.getModifiers()) || Modifier.isPrivate(field.getModifiers())), field + "");
        }
        for (Class<?> inside : classes) {
            check(Modifier.isStatic(inside.getModifiers()) && Modifier.isPrivate(inside.getModifiers()), inside + "");
            for (Method method : inside.getDeclaredMethods()) {
                check(!names.contains(method.getName()), method + " bears a name of the face");
            }
        }
        classes.add(ClauseCourt.class);
        for (Class<?> each : classes) {
            rulesOf(each);
        }
    }

    private static void rulesOf(Class<?> each) {
        int fields = 0;
        for (Field field : each.getDeclaredFields()) {
            boolean isStatic = Modifier.isStatic(field.getModifiers());
            fields += isStatic ? 0 : 1;
            check(!isStatic || Modifier.isFinal(field.getModifiers()) && field.getType() == int.class, field + " is a constant");
        }
        check(fields <= 20, each + " has at most twenty fields");
        for (Method method : each.getDeclaredMethods()) {
            check(method.getParameterCount() <= 7, method + " takes at most seven");
        }
    }

    private static void source() throws IOException {
        String text = Files.readString(Path.of("src/main/java/ClauseCourt.java"));
        String code = text.replaceAll("(?s)/\\*.*?\\*/", " ").replaceAll("//[^\n]*", " ").replaceAll("\"[^\"\n]*\"", "\"\"");
        check(text.chars().allMatch(c -> c < 128), "plain letters alone");
        String[] refused = {"->", "::", "\\bfinally\\b", "\\bcatch\\b", "\\btry\\b", "\\bassert\\b", "\\bsynchronized\\b",
            "Exact\\b", "\\bpackage\\b", "\\bprotected\\b", "\\bwhile\\b", "\\bSystem\\b", "\\bdouble\\b", "\\bfloat\\b"};
        for (String each : refused) {
            check(!Pattern.compile(each).matcher(code).find(), "no " + each);
        }
        Matcher imports = Pattern.compile("import ([^;]+);").matcher(code);
        while (imports.find()) {
            check(List.of("java.util.Arrays", "java.util.NoSuchElementException").contains(imports.group(1)), imports.group());
        }
        Matcher thrown = Pattern.compile("throw new (\\w+)").matcher(code);
        while (thrown.find()) {
            check(List.of("IllegalArgumentException", "NoSuchElementException").contains(thrown.group(1)), thrown.group());
        }
    }

    private static int word(String text, int place) {
        int value = 0;
        for (int i = place; i < place + 4; i++) {
            value = value << 8 | (i < text.length() ? text.charAt(i) : ' ');
        }
        return value;
    }

    private static void callAll(ClauseCourt x, String formula, String proof) {
        String[] texts = {formula, proof};
        for (String text : texts) {
            for (int i = 0; i < text.length(); i += 20) {
                x.feed(word(text, i), word(text, i + 4), word(text, i + 8), word(text, i + 12), word(text, i + 16));
            }
            if (text == formula) {
                check(x.formula(text.length()) == 0, "a formula");
            } else {
                check(x.proof(text.length(), false) == 0, "a proof");
            }
        }
        for (int i = 0; i < 8; i++) {
            x.weigh((i & 1) != 0, (i & 2) != 0, (i & 4) != 0, 20000);
            x.count(4);
            x.clause(1, 2);
            x.hint(1, 2);
            x.shorter();
        }
        x.takeShorter();
    }

    private static String signRows(int width) {
        StringBuilder rows = new StringBuilder();
        for (int signs = 0; signs < 1 << width; signs++) {
            for (int j = 0; j < width; j++) {
                rows.append((signs >> j & 1) == 0 ? "" : "-").append(j + 1).append(' ');
            }
            rows.append("0\n");
        }
        return rows.toString();
    }

    /** A call that throws nothing makes nothing, so that a run stays in its room. */
    private static void room() {
        com.sun.management.ThreadMXBean threads = (com.sun.management.ThreadMXBean) ManagementFactory.getThreadMXBean();
        String formula = "p cnf 7 128\n" + signRows(7);
        String proof = signRows(6) + signRows(5) + signRows(4);
        ClauseCourt x = new ClauseCourt();
        callAll(x, formula, proof);
        long id = Thread.currentThread().getId();
        long before = threads.getThreadAllocatedBytes(id);
        callAll(x, formula, proof);
        long made = threads.getThreadAllocatedBytes(id) - before;
        check(made < 2000, "calls make nothing, but made bytes: " + made);
        before = threads.getThreadAllocatedBytes(id);
        new ClauseCourt();
        made = threads.getThreadAllocatedBytes(id) - before;
        check(made < 200_000, "a new object is small, but has bytes: " + made);
    }

    public static void main(String[] args) throws IOException {
        face();
        source();
        room();
        System.out.println(wrong == 0 ? "the face is as due" : wrong + " things are not so");
        if (wrong != 0) {
            System.exit(1);
        }
    }
}
