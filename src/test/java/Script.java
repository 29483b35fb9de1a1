import java.util.regex.Matcher;
import java.util.regex.Pattern;

/**
 * Runs a row of calls, written as a text, on one new object:
 *
 *   name(numbers)            makes the call
 *   name(numbers)=answer     and the answer is due, and that it is not refused
 *   name(numbers)=answer!2   and the answer is due, and the fault 2
 *
 * An answer is a number, true, false, or (of at) throws; MIN and MAX are the outermost ints. Rows:
 * mask(numbers) is a ring with that mask; fill(what,numbers) sets a row's numbers from place 0 on;
 * all(what,v) sets v at each place; row(what), backs(), told(i) and signs(i) ask for several numbers,
 * as row(0)=1,0,-1.
 */
final class Script {
    /** What later calls answer is free. */
    private static final int MOST_CALLS = 512;
    private static final Pattern CALL = Pattern.compile("(\\w+)\\(([^)]*)\\)(?:=([^! ]+)(?:!(\\d))?)?");

    private final Checks checks;
    private final String title;
    private final Calls.Answerer object;
    private int made = 0;

    Script(Checks checks, String title, Calls.Answerer object) {
        this.checks = checks;
        this.title = title;
        this.object = object;
    }

    Script run(String text) {
        Matcher call = CALL.matcher(text);
        int end = 0;
        while (call.find()) {
            inPlace(text.substring(end, call.start()));
            end = call.end();
            step(call.group(1), numbers(call.group(2)), call.group(3), call.group(4));
        }
        inPlace(text.substring(end));
        return this;
    }

    private void inPlace(String between) {
        if (!between.isBlank()) {
            throw new IllegalArgumentException(title + ": can't read '" + between + "'");
        }
    }

    static int[] numbers(String list) {
        if (list.isBlank()) {
            return new int[0];
        }
        String[] parts = list.split(",");
        int[] v = new int[parts.length];
        for (int i = 0; i < v.length; i++) {
            v[i] = number(parts[i]);
        }
        return v;
    }

    private static int number(String part) {
        switch (part) {
            case "MIN": return Integer.MIN_VALUE;
            case "MAX": return Integer.MAX_VALUE;
            case "true": return 1;
            case "false": return 0;
            default: return Integer.parseInt(part);
        }
    }

    Long make(String name, int... v) {
        made++;
        if (made > MOST_CALLS) {
            throw new IllegalStateException(title + ": more calls than the document answers for");
        }
        return object.call(name, v);
    }

    int made() {
        return made;
    }

    private void step(String name, int[] v, String want, String fault) {
        switch (name) {
            case "mask":
                make("ring", v.length);
                fill(0, v, 0);
                return;
            case "fill":
                fill(v[0], v, 1);
                return;
            case "all":
                long n = make("count", 0);
                for (int i = 0; i < n; i++) {
                    due("set", make("set", v[0], i, v[1]), 1L);
                }
                return;
            case "row": several("at", v, want); return;
            case "backs": several("back", v, want); return;
            case "told": several("point", v, want); return;
            case "signs": several("sign", v, want); return;
            default: one(name, v, want, fault);
        }
    }

    private void fill(int what, int[] v, int from) {
        for (int i = from; i < v.length; i++) {
            due("set", make("set", what, i - from, v[i]), 1L);
        }
    }

    /** The call with the numbers 0, 1, .. behind those given. */
    private void several(String name, int[] v, String want) {
        int[] wants = numbers(want);
        for (int i = 0; i < wants.length; i++) {
            int[] longer = java.util.Arrays.copyOf(v, v.length + 1);
            longer[v.length] = i;
            due(written(name, longer), make(name, longer), (long) wants[i]);
        }
    }

    private void one(String name, int[] v, String want, String fault) {
        Long got = make(name, v);
        if (want == null) {
            return;
        }
        due(written(name, v), got, want.equals("throws") ? null : Long.valueOf(number(want)));
        if (!name.equals("at") && !name.equals("fault")) {
            long code = fault == null ? 0 : Long.parseLong(fault);
            due("fault() after " + written(name, v), make("fault"), code);
        }
    }

    static String written(String name, int[] v) {
        StringBuilder text = new StringBuilder(name).append('(');
        for (int i = 0; i < v.length; i++) {
            text.append(i == 0 ? "" : ",").append(v[i]);
        }
        return text.append(')').toString();
    }

    private void due(String call, Long got, Long want) {
        checks.due(title + ": " + call, String.valueOf(got), String.valueOf(want));
    }
}
