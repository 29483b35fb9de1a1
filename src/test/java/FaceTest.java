import java.io.IOException;
import java.lang.reflect.Constructor;
import java.lang.reflect.Field;
import java.lang.reflect.Method;
import java.lang.reflect.Modifier;
import java.nio.file.Files;
import java.nio.file.Path;
import java.util.Arrays;
import java.util.List;
import java.util.Set;
import java.util.TreeSet;
import java.util.regex.Matcher;
import java.util.regex.Pattern;

/** The document's face, no more and no less, and those rules of LANGUAGE.md that a look can tell. */
public final class FaceTest {
    private static final String FACE = "boolean ring(int) int sheet(int,int) boolean entry(int,int) "
        + "boolean lay(int) boolean set(int,int,int) boolean miss(int) int at(int,int) int count(int) "
        + "int shadow(int) boolean cast() int meets(int) int off() boolean turn(int) boolean anti() "
        + "int fold(int,int,int,int) int rests(int) int twins(int) int shift(int) long undo() "
        + "long back(int) long noise(int) int rank() int lost() int solve() int sure() int points(int) "
        + "int point(int,int) int table(int,int) int twice() boolean swap(int,int) int sign(int,int) "
        + "int product(int,int) int look(int) int fault()";
    private static final Checks C = new Checks();

    public static void main(String[] args) throws IOException {
        methods();
        thrown();
        fields();
        nested();
        List<String> lines = Files.readAllLines(Path.of("src/main/java/HoleMask.java"));
        source(lines);
        sizes(lines);
        library(lines);
        String document = Files.readString(Path.of("../shared/DOC.md"));
        asWritten(lines, document);
        headings(lines, document);
        C.finish();
    }

    private static String face(Method m) {
        StringBuilder text = new StringBuilder(m.getReturnType() + " " + m.getName() + "(");
        for (Class<?> type : m.getParameterTypes()) {
            text.append(text.charAt(text.length() - 1) == '(' ? "" : ",").append(type);
        }
        return text.append(")").toString();
    }

    private static void methods() {
        TreeSet<String> want = new TreeSet<>();
        for (String one : FACE.split("(?<=\\)) ")) {
            want.add(one);
        }
        TreeSet<String> got = new TreeSet<>();
        TreeSet<String> names = new TreeSet<>();
        for (Method m : HoleMask.class.getDeclaredMethods()) {
            if (!Modifier.isPrivate(m.getModifiers())) {
                got.add(face(m));
                names.add(m.getName());
                C.due(m.getName() + " is public", m.getModifiers(), Modifier.PUBLIC);
            }
        }
        C.due("the methods", got.toString(), want.toString());
        for (Method m : HoleMask.class.getDeclaredMethods()) {
            boolean twice = Modifier.isPrivate(m.getModifiers()) && names.contains(m.getName());
            C.due("a private method has a public name: " + m.getName(), twice, false);
        }
        Constructor<?>[] made = HoleMask.class.getDeclaredConstructors();
        C.due("constructors", made.length, 1);
        C.due("the constructor's parameters", made[0].getParameterCount(), 0);
        C.due("the constructor", made[0].getModifiers(), Modifier.PUBLIC);
        C.due("the class", HoleMask.class.getModifiers(), Modifier.PUBLIC | Modifier.FINAL);
    }

    /** Only at() says that it throws; and none of the face is told by Object's methods. */
    private static void thrown() {
        for (Method m : HoleMask.class.getDeclaredMethods()) {
            String want = m.getName().equals("at") ? "[class java.util.NoSuchElementException]" : "[]";
            C.due(m.getName() + " throws", Arrays.toString(m.getExceptionTypes()), want);
        }
        C.due("the class above", HoleMask.class.getSuperclass().getName(), "java.lang.Object");
        C.due("interfaces", HoleMask.class.getInterfaces().length, 0);
        C.due("package", HoleMask.class.getPackageName(), "");
    }

    /** Each line of the document's face stands in the source, in the document's order. */
    private static void asWritten(List<String> lines, String document) {
        String face = document.substring(document.indexOf("```java") + 7, document.indexOf("```\n\n## Terms"));
        int at = 0;
        for (String line : face.split("\n")) {
            String want = line.contains("(") ? line.substring(0, line.length() - 1) + " {" : line;
            if (!line.isBlank() && !line.equals("}")) {
                int found = lines.subList(at, lines.size()).indexOf(want);
                C.due("the face's line " + want.trim() + " in its order", found >= 0, true);
                at += found + 1;
            }
        }
    }

    /** The interface's headings stand ahead of the calls that the document names. */
    private static void headings(List<String> lines, String document) {
        Matcher told = Pattern.compile("Ahead of the calls (.*) the interface says: (---- .*)\\.").matcher(document);
        int groups = 0;
        while (told.find()) {
            groups++;
            int at = lines.indexOf("    // " + told.group(2));
            C.due("the heading " + told.group(2), at >= 0, true);
            for (String name : told.group(1).split(", ")) {
                String call = " " + name.replace("`", "") + "(";
                int found = at + 1;
                while (found < lines.size() && !lines.get(found).startsWith("    // ----")
                        && !(lines.get(found).startsWith("    public ") && lines.get(found).contains(call))) {
                    found++;
                }
                boolean here = found < lines.size() && !lines.get(found).startsWith("    // ----");
                C.due(call + ") stands behind " + told.group(2), here, true);
            }
        }
        C.due("headings", groups, 5);
    }

    private static void fields() {
        C.due("NONE", HoleMask.NONE, -1);
        for (Field f : HoleMask.class.getDeclaredFields()) {
            boolean isNone = f.getName().equals("NONE");
            boolean constant = f.getModifiers() == (Modifier.PUBLIC | Modifier.STATIC | Modifier.FINAL);
            C.due(f.getName() + " is the document's", constant && f.getType() == int.class, isNone);
            C.due(f.getName() + " is private", Modifier.isPrivate(f.getModifiers()), !isNone);
            boolean mutable = Modifier.isStatic(f.getModifiers()) && !Modifier.isFinal(f.getModifiers());
            C.due(f.getName() + " is static state", mutable, false);
        }
    }

    private static void nested() {
        TreeSet<String> names = new TreeSet<>();
        for (Method m : HoleMask.class.getMethods()) {
            names.add(m.getName());
        }
        for (Class<?> inside : HoleMask.class.getDeclaredClasses()) {
            C.due(inside + " is static", Modifier.isStatic(inside.getModifiers()), true);
            C.due(inside + " is private", Modifier.isPrivate(inside.getModifiers()), true);
            for (Method m : inside.getDeclaredMethods()) {
                C.due("a name of the face inside: " + m.getName(), names.contains(m.getName()), false);
            }
            for (Field f : inside.getDeclaredFields()) {
                boolean mutable = Modifier.isStatic(f.getModifiers()) && !Modifier.isFinal(f.getModifiers());
                C.due(inside + "." + f.getName() + " is static state", mutable, false);
            }
        }
    }

    /** Rule 11: how long methods, how many parameters, classes and fields. */
    private static void sizes(List<String> lines) {
        C.due("at most twelve classes", HoleMask.class.getDeclaredClasses().length + 1 <= 12, true);
        sizesOf(HoleMask.class);
        for (Class<?> inside : HoleMask.class.getDeclaredClasses()) {
            sizesOf(inside);
        }
        Pattern opens = Pattern.compile("( {4}| {8})(public|private) .*\\(.*\\{");
        for (int i = 0; i < lines.size(); i++) {
            Matcher method = opens.matcher(lines.get(i));
            if (method.matches()) {
                int end = lines.subList(i, lines.size()).indexOf(method.group(1) + "}");
                C.due("line " + (i + 1) + " begins a method that is short", end > 0 && end < 60, true);
            }
        }
    }

    private static void sizesOf(Class<?> one) {
        int fields = 0;
        for (Field f : one.getDeclaredFields()) {
            fields += Modifier.isStatic(f.getModifiers()) ? 0 : 1;
        }
        C.due(one + " has at most twenty fields", fields <= 20, true);
        for (Method m : one.getDeclaredMethods()) {
            C.due(m + " takes at most seven parameters", m.getParameterCount() <= 7, true);
        }
    }

    /** Rule 4: of the library only what it lists; here what of it the class needs. */
    private static void library(List<String> lines) {
        Pattern used = Pattern.compile("\\b(Math|Integer|Long|Arrays|System|String|List|Character)\\.(\\w+)");
        Set<String> listed = Set.of("Math.min", "Math.max", "Math.abs", "Math.floorMod", "Integer.bitCount", "Arrays.fill",
            "System.arraycopy");
        for (String line : lines) {
            Matcher call = used.matcher(line.startsWith("import") ? "" : line);
            while (call.find()) {
                C.due(call.group() + " is listed", listed.contains(call.group()), true);
            }
        }
    }

    private static void source(List<String> lines) {
        Pattern barred = Pattern.compile("->|::|\\bcatch\\b|\\btry\\b|\\bfinally\\b|Exact\\b|\\bsynchronized\\b"
            + "|\\bassert\\b|\\bdouble\\b|\\bfloat\\b|System\\.(?!arraycopy)|\\bnative\\b|\\bwhile\\b|\\bvar\\b");
        Pattern imports = Pattern.compile("import java\\.util\\.(Arrays|NoSuchElementException);");
        // Only a new object makes rows: so no run of calls can fill the room.
        Pattern made = Pattern.compile("    private final .* = new .*;|.*throw new .*");
        for (int i = 0; i < lines.size(); i++) {
            String line = lines.get(i);
            String code = line.replaceAll("\"[^\"]*\"|//.*|^\\s*/?\\*.*", "");
            Matcher found = barred.matcher(code);
            C.due("line " + (i + 1) + " holds what is barred", found.find(), false);
            if (code.startsWith("import")) {
                C.due("line " + (i + 1) + " imports", imports.matcher(code).matches(), true);
            }
            if (code.contains("new ")) {
                String flat = line.replaceFirst("^        private", "    private");
                C.due("line " + (i + 1) + " makes an object", made.matcher(flat).matches(), true);
            }
            C.due("line " + (i + 1) + " is plain text", line.matches("[\\x20-\\x7e]*"), true);
        }
    }
}
