import java.io.IOException;
import java.lang.reflect.Constructor;
import java.lang.reflect.Field;
import java.lang.reflect.Method;
import java.lang.reflect.Modifier;
import java.nio.file.Files;
import java.nio.file.Path;
import java.util.ArrayList;
import java.util.List;
import java.util.Set;
import java.util.TreeSet;
import java.util.regex.Matcher;
import java.util.regex.Pattern;

/** The public face of the document, and the rules of LANGUAGE.md that the source itself can tell. */
public final class FaceTest {
    private static final Path SOURCE = Path.of("src/main/java/RowDesk.java");
    private static final String[] CONSTANTS = {
        "public static final int NONE = -1", "public static final int FULL = -4"};
    private static final String[] METHODS = {
        "public int feed(int a, int b, int c, int d, int e)",
        "public int end(int n)",
        "public int put(int r)",
        "public int at(int r, int i)",
        "public int size(int r)",
        "public int pad(int p)",
        "public int fill(int way, int a, int n, int to)",
        "public int part(int a, int k, int n, int to)",
        "public int cut(int a, int k, int n, int to)",
        "public int join(int a, int b, int w, int to)",
        "public int copies(int a, int n, int to)",
        "public int set(int a, int b, int n, boolean over, int to)",
        "public int find(int a, int b, int k, boolean last)",
        "public int change(int a, int b, int c, int to)",
        "public int often(int a, int b)",
        "public int unlike(int a, int b)",
        "public int strip(int a, int ends, int to)",
        "public int turn(int how, int a, int to)",
        "public int translate(int a, int b, int c, int to)",
        "public int verify(int a, int b, int k, boolean other)",
        "public int space(int a, int n, int to)",
        "public int words(int a)",
        "public int word(int a, int k, int what)",
        "public int some(int a, int k, int n, boolean without, int to)",
        "public int order(int a, int how, int to)",
        "public int place(int a, int b, int k)"};
    /** What the rules leave out, and throw and try as well, as the document asks for no exception. */
    private static final String[] RULED_OUT = {
        "\\bimport\\b", "\\bpackage\\b", "\\bthrow\\b", "\\btry\\b", "\\bcatch\\b", "\\bfinally\\b",
        "\\bassert\\b", "\\bsynchronized\\b", "->", "::", "\\bstatic\\s*\\{", "\\w+Exact\\b",
        "\\bnative\\b", "\\bdouble\\b", "\\bfloat\\b", "\\bjava\\.", "\\bprotected\\b"};

    public static void main(String[] args) throws IOException {
        String code = Files.readString(SOURCE).replaceAll("(?s)/\\*.*?\\*/", "").replaceAll("//.*", "");
        constants(code);
        methods(code);
        constructors(code);
        fields();
        classesInside();
        ruledOut(code);
        library(code);
        sizes(code);
        Bench.close();
    }

    private static void constants(String code) {
        Bench.due("NONE", RowDesk.NONE, -1);
        Bench.due("FULL", RowDesk.FULL, -4);
        for (String constant : CONSTANTS) {
            isWritten(code, "    " + constant + ";\n");
        }
    }

    private static void methods(String code) {
        Set<String> want = new TreeSet<>();
        Set<String> names = new TreeSet<>();
        for (String method : METHODS) {
            isWritten(code, "    " + method + " {\n");
            want.add(method.replaceAll(" \\w+(?=[,)])", "").replace(", ", ","));
            names.add(method.replaceAll("public int (\\w+).*", "$1"));
        }
        Set<String> got = new TreeSet<>();
        for (Method method : RowDesk.class.getDeclaredMethods()) {
            if (Modifier.isPrivate(method.getModifiers())) {
                Bench.due("a public name for " + method, names.contains(method.getName()) ? 1 : 0, 0);
            } else {
                got.add(method.toString().replace("RowDesk.", ""));
            }
        }
        Bench.dueText("methods", got.toString(), want.toString());
    }

    private static void constructors(String code) {
        isWritten(code, "public final class RowDesk {\n");
        isWritten(code, "    public RowDesk() {\n");
        Bench.due("public and final", RowDesk.class.getModifiers(), Modifier.PUBLIC | Modifier.FINAL);
        Constructor<?>[] constructors = RowDesk.class.getDeclaredConstructors();
        Bench.due("constructors", constructors.length, 1);
        Bench.dueText("constructor", constructors[0].toString(), "public RowDesk()");
    }

    private static void fields() {
        Set<String> open = new TreeSet<>();
        for (Field field : RowDesk.class.getDeclaredFields()) {
            if (!Modifier.isPrivate(field.getModifiers())) {
                open.add(field.toString());
            }
        }
        Bench.dueText("fields", open.toString(), "[public static final int RowDesk.FULL, "
                + "public static final int RowDesk.NONE]");
        for (Class<?> one : allClasses()) {
            int ofObjects = 0;
            for (Field field : one.getDeclaredFields()) {
                int modifiers = field.getModifiers();
                boolean isStatic = Modifier.isStatic(modifiers);
                ofObjects += isStatic ? 0 : 1;
                Bench.due(field + " is changed static state", isStatic && !Modifier.isFinal(modifiers) ? 1 : 0, 0);
            }
            Bench.due(one + " has more than 20 fields", ofObjects > 20 ? 1 : 0, 0);
        }
    }

    private static void classesInside() {
        List<Class<?>> all = allClasses();
        Bench.due("more than 12 classes", all.size() > 12 ? 1 : 0, 0);
        for (Class<?> one : all.subList(1, all.size())) {
            int modifiers = one.getModifiers();
            boolean isOpen = Modifier.isPublic(modifiers) || Modifier.isProtected(modifiers);
            Bench.due(one + " is open", isOpen ? 1 : 0, 0);
            Bench.due(one + " is static", Modifier.isStatic(modifiers) ? 1 : 0, 1);
        }
    }

    private static List<Class<?>> allClasses() {
        List<Class<?>> all = new ArrayList<>();
        all.add(RowDesk.class);
        all.addAll(List.of(RowDesk.class.getDeclaredClasses()));
        return all;
    }

    private static void ruledOut(String code) {
        for (String pattern : RULED_OUT) {
            Matcher matcher = Pattern.compile(pattern).matcher(code);
            Bench.dueText("what is ruled out by " + pattern, matcher.find() ? matcher.group() : "", "");
        }
    }

    /** Each name with a capital and small letters is a class: one of the file's own, or Math. */
    private static void library(String code) {
        Set<String> known = new TreeSet<>(List.of("Math"));
        for (Class<?> one : allClasses()) {
            known.add(one.getSimpleName());
        }
        Matcher name = Pattern.compile("\\b[A-Z]\\w*[a-z]\\w*").matcher(code);
        while (name.find()) {
            Bench.due("a class that is not known: " + name.group(), known.contains(name.group()) ? 1 : 0, 1);
        }
        Matcher function = Pattern.compile("\\bMath\\.(\\w+)").matcher(code);
        while (function.find()) {
            Bench.due(function.group(), function.group(1).matches("max|min") ? 1 : 0, 1);
        }
    }

    /** All calls of a run live in one room, so that objects are made by constructors alone. */
    private static void sizes(String code) {
        int bodies = 0;
        for (String body : code.split("(?m)^(?=( {4}| {8})(?!for|while|if|switch)\\w.*\\) \\{$)")) {
            String head = body.strip().split("\n")[0];
            boolean isConstructor = head.matches("(public )?(RowDesk|Row|WordList|ByteTable)\\(.*");
            boolean makes = Pattern.compile("\\bnew\\b").matcher(body).find();
            Bench.due("new in " + head, makes && !isConstructor ? 1 : 0, 0);
            Bench.due("more than 60 lines in " + head, body.lines().count() > 60 ? 1 : 0, 0);
            Bench.due("more than 7 parameters in " + head, head.split(",").length > 7 ? 1 : 0, 0);
            bodies++;
        }
        Bench.due("all methods of the face are looked at", bodies > METHODS.length ? 1 : 0, 1);
    }

    private static void isWritten(String code, String line) {
        Bench.due("is written: " + line.strip(), code.contains(line) ? 1 : 0, 1);
    }
}
