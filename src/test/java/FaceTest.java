import java.io.IOException;
import java.lang.reflect.Constructor;
import java.lang.reflect.Field;
import java.lang.reflect.Method;
import java.lang.reflect.Modifier;
import java.nio.file.Files;
import java.nio.file.Path;
import java.util.List;
import java.util.TreeSet;
import java.util.regex.Matcher;
import java.util.regex.Pattern;

/** The document's face, no more and no less, and those rules of LANGUAGE.md that a look can tell. */
public final class FaceTest {
    private static final String FACE = "boolean ring(int) int sheet(int,int) boolean entry(int,int) "
        + "boolean lay(int) boolean set(int,int,int) boolean miss(int) int at(int,int) int count(int) "
        + "int shadow(int) boolean cast() int meets(int) int off() boolean turn(int) boolean anti() "
        + "int fold(int,int,int,int) int rests(int) int twins(int) int shift(int) long undo() "
        + "long back(int) long noise(int) int rank() int lost() int solve() int sure() int points(int) "
        + "int point(int,int) int table(int,int) int twice() boolean swap(int,int) int sign(int,int) "
        + "int product(int,int) int look(int) int fault()";
    private static final Checks C = new Checks();

    public static void main(String[] args) throws IOException {
        methods();
        fields();
        nested();
        source(Files.readAllLines(Path.of("src/main/java/HoleMask.java")));
        C.finish();
    }

    private static String face(Method m) {
        StringBuilder text = new StringBuilder(m.getReturnType() + " " + m.getName() + "(");
        for (Class<?> type : m.getParameterTypes()) {
            text.append(text.charAt(text.length() - 1) == '(' ? "" : ",").append(type);
        }
        return text.append(")").toString();
    }

    private static void methods() {
        TreeSet<String> want = new TreeSet<>();
        for (String one : FACE.split("(?<=\\)) ")) {
            want.add(one);
        }
        TreeSet<String> got = new TreeSet<>();
        TreeSet<String> names = new TreeSet<>();
        for (Method m : HoleMask.class.getDeclaredMethods()) {
            if (!Modifier.isPrivate(m.getModifiers())) {
                got.add(face(m));
                names.add(m.getName());
                C.due(m.getName() + " is public", m.getModifiers(), Modifier.PUBLIC);
            }
        }
        C.due("the methods", got.toString(), want.toString());
        for (Method m : HoleMask.class.getDeclaredMethods()) {
            boolean twice = Modifier.isPrivate(m.getModifiers()) && names.contains(m.getName());
            C.due("a private method has a public name: " + m.getName(), twice, false);
        }
        Constructor<?>[] made = HoleMask.class.getDeclaredConstructors();
        C.due("constructors", made.length, 1);
        C.due("the constructor's parameters", made[0].getParameterCount(), 0);
        C.due("the constructor", made[0].getModifiers(), Modifier.PUBLIC);
        C.due("the class", HoleMask.class.getModifiers(), Modifier.PUBLIC | Modifier.FINAL);
    }

    private static void fields() {
        C.due("NONE", HoleMask.NONE, -1);
        for (Field f : HoleMask.class.getDeclaredFields()) {
            boolean isNone = f.getName().equals("NONE");
            C.due(f.getName() + " is private", Modifier.isPrivate(f.getModifiers()), !isNone);
            boolean mutable = Modifier.isStatic(f.getModifiers()) && !Modifier.isFinal(f.getModifiers());
            C.due(f.getName() + " is static state", mutable, false);
        }
    }

    private static void nested() {
        TreeSet<String> names = new TreeSet<>();
        for (Method m : HoleMask.class.getMethods()) {
            names.add(m.getName());
        }
        for (Class<?> inside : HoleMask.class.getDeclaredClasses()) {
            C.due(inside + " is static", Modifier.isStatic(inside.getModifiers()), true);
            C.due(inside + " is private", Modifier.isPrivate(inside.getModifiers()), true);
            for (Method m : inside.getDeclaredMethods()) {
                C.due("a name of the face inside: " + m.getName(), names.contains(m.getName()), false);
            }
        }
    }

    private static void source(List<String> lines) {
        Pattern barred = Pattern.compile("->|::|\\bcatch\\b|\\btry\\b|\\bfinally\\b|Exact\\b|\\bsynchronized\\b"
            + "|\\bassert\\b|\\bdouble\\b|\\bfloat\\b|System\\.(?!arraycopy)|\\bnative\\b|\\bwhile\\b|\\bvar\\b");
        Pattern imports = Pattern.compile("import java\\.util\\.(Arrays|NoSuchElementException);");
        // Only a new object makes rows: so no run of calls can fill the room.
        Pattern made = Pattern.compile("    private final .* = new .*;|.*throw new .*");
        for (int i = 0; i < lines.size(); i++) {
            String line = lines.get(i);
            String code = line.replaceAll("\"[^\"]*\"|//.*|^\\s*/?\\*.*", "");
            Matcher found = barred.matcher(code);
            C.due("line " + (i + 1) + " holds what is barred", found.find(), false);
            if (code.startsWith("import")) {
                C.due("line " + (i + 1) + " imports", imports.matcher(code).matches(), true);
            }
            if (code.contains("new ")) {
                String flat = line.replaceFirst("^        private", "    private");
                C.due("line " + (i + 1) + " makes an object", made.matcher(flat).matches(), true);
            }
            C.due("line " + (i + 1) + " is plain text", line.matches("[\\x20-\\x7e]*"), true);
        }
    }
}
