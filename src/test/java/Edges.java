import java.util.HashSet;
import java.util.List;
import java.util.Set;
import java.util.TreeSet;

/** Tests of single sentences, each by the number of its promise and a title of its own. */
final class Edges {
    private final Checks checks = new Checks();
    private final Set<Integer> promises = new TreeSet<>();
    private final Set<String> titles = new HashSet<>();

    /** The calls of the text answer as it says, on the class and on the plain model of it. */
    void edge(int promise, String sentence, String text) {
        String title = begin(promise, sentence);
        new Script(checks, title, Calls.of(new HoleMask())).run(text);
        new Script(checks, title + " (plain model)", Calls.of(new PlainMask())).run(text);
    }

    /** The last call answers as it says, and changes nothing but the fault. */
    void still(int promise, String sentence, String before, String call) {
        edge(promise, sentence, before + " " + call);
        List<Long> was = State.after(sentence, before);
        List<Long> is = State.after(sentence, before + " " + call);
        checks.due("promise " + promise + ", " + sentence + ": changes nothing, what can be seen",
            is.toString(), was.toString());
    }

    /** Each of these calls is still(), for itself. */
    void eachStill(int promise, String sentence, String before, String... calls) {
        for (String call : calls) {
            still(promise, sentence + ": " + call, before, call);
        }
    }

    private String begin(int promise, String sentence) {
        String title = "promise " + promise + ", " + sentence;
        if (!titles.add(title)) {
            throw new IllegalStateException("two tests are called " + title);
        }
        promises.add(promise);
        return title;
    }

    void finish(int first, int last) {
        for (int promise = first; promise <= last; promise++) {
            checks.due("promise " + promise + " has a test", promises.contains(promise), true);
        }
        System.out.println(titles.size() + " tests of edges");
        checks.finish();
    }
}
