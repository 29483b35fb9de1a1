import java.io.IOException;
import java.lang.reflect.Method;
import java.lang.reflect.Modifier;
import java.nio.file.Files;
import java.nio.file.Path;
import java.util.Map;
import java.util.TreeMap;
import java.util.TreeSet;
import java.util.regex.Matcher;
import java.util.regex.Pattern;

/** README.md says of each call what the class does: what a refused one answers, and its faults. */
public final class ReadmeTest {
    private static final Path README = Path.of("README.md");
    private static final String EXAMPLE = "rests(7)=3 set(1,0,5)=true cast()=true undo()=6 back(3)=2 noise(0)=4 solve()=1 "
        + "miss(3)=true points(0)=1 point(0,1)=5 table(1,11)=12 twice()=24 twice()=-1!3 fault()=3";
    /** For each kind of refusal a run that ends with a call which is refused so. */
    private static final String[] REFUSED = {"ring(0)", "sheet(4,0)", "sheet(0,61)", "sheet(0,-1)", "entry(0,0)",
        "sheet(3,0) entry(0,0)", "sheet(0,1) entry(1,0)", "lay(3)", "sheet(0,1) entry(0,2) lay(0)", "lay(0)", "set(3,0,0)",
        "set(0,1,0)", "set(0,0,2)", "miss(1)", "count(8)", "shadow(1)", "meets(1)", "set(0,0,-1) anti()", "fold(1,2,0,0)",
        "ring(4) fold(2,2,0,0)", "fold(1,1,1,0)", "fold(-1,-1,0,0)", "rests(5)", "twins(7)", "shift(6)", "ring(15) undo()",
        "back(1)", "back(0)", "noise(2)", "noise(0)", "ring(15) rank()", "ring(15) lost()", "ring(15) solve()",
        "miss(0) solve()", "ring(15) sure()", "points(1001)", "table(0,6)", "twice()", "table(0,5) twice()", "swap(0,0)",
        "table(0,0) swap(1,0)", "product(0,0)", "table(0,0) product(1,0)", "look(0)", "table(0,0) look(1)"};
    private static final Checks C = new Checks();

    private final Map<String, String> answers = new TreeMap<>();
    private final Map<String, TreeSet<String>> faults = new TreeMap<>();
    private final TreeSet<String> rows = new TreeSet<>();

    public static void main(String[] args) throws IOException {
        String text = Files.readString(README);
        example(text);
        ReadmeTest test = new ReadmeTest();
        for (String run : REFUSED) {
            test.refuse(run);
        }
        for (String line : text.split("\n")) {
            if (line.startsWith("| `")) {
                test.row(line);
            }
        }
        test.eachCall();
        C.finish();
    }

    private static void example(String text) {
        new Script(C, "the example", Calls.of(new HoleMask())).run(EXAMPLE);
        String block = text.substring(text.indexOf("```java"), text.indexOf("An object holds"));
        int at = 0;
        for (String call : EXAMPLE.split(" ")) {
            String written = "x." + call.substring(0, call.indexOf('=')).replace(",", ", ") + ";";
            int found = block.indexOf(written, at);
            C.due("the example has " + written, found >= 0, true);
            at = Math.max(at, found + 1);
        }
        C.due("calls in the example", block.split("x\\.").length - 1, EXAMPLE.split(" ").length);
    }

    private static Class<?> answerOf(String name) {
        for (Method m : HoleMask.class.getDeclaredMethods()) {
            if (m.getName().equals(name) && Modifier.isPublic(m.getModifiers())) {
                return m.getReturnType();
            }
        }
        return void.class;
    }

    private void refuse(String run) {
        int last = run.lastIndexOf(' ') + 1;
        String name = run.substring(last, run.indexOf('(', last));
        Script object = new Script(C, run, Calls.of(new HoleMask())).run(run.substring(0, last));
        String numbers = run.substring(run.indexOf('(', last) + 1, run.length() - 1);
        long answer = object.make(name, Script.numbers(numbers));
        long fault = object.make("fault");
        C.due(run + " is refused", fault != 0, true);
        String said = answerOf(name) == boolean.class ? "false" : answer == HoleMask.NONE ? "NONE" : String.valueOf(answer);
        String before = answers.put(name, said);
        C.due(run + " answers as each refused one", said, before == null ? said : before);
        faults.computeIfAbsent(name, key -> new TreeSet<>()).add("(" + fault + ")");
    }

    /** | call | answers | what a refused one answers | when (fault) | */
    private void row(String line) {
        String[] cells = line.split("\\s*\\|\\s*");
        String call = cells[1].replace("`", "");
        String name = call.substring(0, call.indexOf('('));
        C.due(name + " has one row", rows.add(call), true);
        C.due(name + " answers, refused", cells[3], name.equals("at") ? "throws `NoSuchElementException`"
            : answers.getOrDefault(name, ""));
        TreeSet<String> told = new TreeSet<>();
        Matcher code = Pattern.compile("\\(\\d\\)").matcher(cells[4]);
        while (code.find()) {
            told.add(code.group());
        }
        C.due(name + "'s faults", told.toString(), faults.getOrDefault(name, new TreeSet<>()).toString());
        boolean never = !answers.containsKey(name) && !name.equals("at");
        C.due(name + " is never refused", cells[4].equals("never"), never);
    }

    /** Each call of the document's face has its row, with the document's names. */
    private void eachCall() throws IOException {
        String document = Files.readString(Path.of("../shared/DOC.md"));
        Matcher call = Pattern.compile("public (?:int|long|boolean) (\\w+\\([^)]*\\))").matcher(document);
        TreeSet<String> want = new TreeSet<>();
        while (call.find()) {
            want.add(call.group(1).replace("int ", ""));
        }
        C.due("the calls of README.md", rows.toString(), want.toString());
    }
}
