import java.io.IOException;
import java.lang.reflect.Constructor;
import java.lang.reflect.Field;
import java.lang.reflect.Method;
import java.lang.reflect.Modifier;
import java.nio.file.Files;
import java.nio.file.Path;
import java.util.Arrays;
import java.util.Set;
import java.util.TreeSet;
import java.util.regex.Matcher;
import java.util.regex.Pattern;

/** The public face of the document, and the rules of LANGUAGE.md that the source itself can tell. */
public final class FaceTest {
    private static final Path SOURCE = Path.of("src/main/java/RowDesk.java");
    private static final String[] FACE = {
        "feed(int,int,int,int,int)", "end(int)", "put(int)", "at(int,int)", "size(int)", "pad(int)",
        "fill(int,int,int,int)", "part(int,int,int,int)", "cut(int,int,int,int)",
        "join(int,int,int,int)", "copies(int,int,int)", "set(int,int,int,boolean,int)",
        "find(int,int,int,boolean)", "change(int,int,int,int)", "often(int,int)", "unlike(int,int)",
        "strip(int,int,int)", "turn(int,int,int)", "translate(int,int,int,int)",
        "verify(int,int,int,boolean)", "space(int,int,int)", "words(int)", "word(int,int,int)",
        "some(int,int,int,boolean,int)", "order(int,int,int)", "place(int,int,int)"};
    private static final String[] RULED_OUT = {
        "\\bimport\\b", "\\bpackage\\b", "\\bthrow\\b", "\\btry\\b", "\\bcatch\\b", "\\bfinally\\b",
        "\\bassert\\b", "\\bsynchronized\\b", "->", "::", "\\bstatic\\s*\\{", "\\w+Exact\\b",
        "\\bSystem\\.(?!arraycopy)", "\\bnative\\b", "\\bdouble\\b", "\\bfloat\\b"};

    public static void main(String[] args) throws IOException {
        constants();
        members();
        source();
        Bench.close();
    }

    private static void constants() {
        Bench.due("NONE", RowDesk.NONE, -1);
        Bench.due("FULL", RowDesk.FULL, -4);
    }

    private static void members() {
        Bench.due("public and final", RowDesk.class.getModifiers(), Modifier.PUBLIC | Modifier.FINAL);
        Set<String> methods = new TreeSet<>();
        Set<String> hidden = new TreeSet<>();
        for (Method method : RowDesk.class.getDeclaredMethods()) {
            if (Modifier.isPrivate(method.getModifiers())) {
                hidden.add(method.getName());
            } else {
                methods.add(shown(method));
                Bench.due(method + " is public and no more", method.getModifiers(), Modifier.PUBLIC);
            }
        }
        Bench.dueText("methods", methods.toString(), new TreeSet<>(Arrays.asList(FACE)).toString());
        for (String method : FACE) {
            String name = method.substring(0, method.indexOf('('));
            Bench.due("private methods named " + name, hidden.contains(name) ? 1 : 0, 0);
        }
        Constructor<?>[] constructors = RowDesk.class.getDeclaredConstructors();
        Bench.due("constructors", constructors.length, 1);
        Bench.due("parameters of the constructor", constructors[0].getParameterCount(), 0);
        Bench.due("the constructor is public", constructors[0].getModifiers(), Modifier.PUBLIC);
        fields();
    }

    private static void fields() {
        Set<String> open = new TreeSet<>();
        for (Field field : RowDesk.class.getDeclaredFields()) {
            if (!Modifier.isPrivate(field.getModifiers())) {
                open.add(field.toString());
            }
            if (Modifier.isStatic(field.getModifiers())) {
                Bench.due(field + " is final", Modifier.isFinal(field.getModifiers()) ? 1 : 0, 1);
            }
        }
        Bench.dueText("fields", open.toString(), "[public static final int RowDesk.FULL, "
                + "public static final int RowDesk.NONE]");
    }

    private static String shown(Method method) {
        StringBuilder shown = new StringBuilder(method.getName()).append('(');
        for (Class<?> type : method.getParameterTypes()) {
            shown.append(shown.charAt(shown.length() - 1) == '(' ? "" : ",").append(type.getName());
        }
        Bench.dueText(method + " answers", method.getReturnType().getName(), "int");
        return shown.append(')').toString();
    }

    private static void source() throws IOException {
        String code = Files.readString(SOURCE).replaceAll("(?s)/\\*.*?\\*/", "").replaceAll("//.*", "");
        for (String pattern : RULED_OUT) {
            Matcher matcher = Pattern.compile(pattern).matcher(code);
            Bench.dueText("what is ruled out by " + pattern, matcher.find() ? matcher.group() : "", "");
        }
        // All calls of a run live in one room, so that objects are made by constructors alone.
        for (String method : code.split("(?m)^(?=( {4}| {8})(?!for|while|if|switch)\\w.*\\) \\{$)")) {
            String head = method.strip().split("\n")[0];
            boolean isConstructor = head.matches("(public )?(RowDesk|Row|WordList|ByteTable)\\(.*");
            boolean makes = Pattern.compile("\\bnew\\b").matcher(method).find();
            Bench.due("new in " + head, makes && !isConstructor ? 1 : 0, 0);
        }
    }
}
