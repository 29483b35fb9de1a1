import java.util.ArrayList;
import java.util.List;
import java.util.Set;
import java.util.TreeSet;

/**
 * Each call with all numbers about its edges, on objects that hold nothing, something or all: answer
 * and fault as the plain model has them, and a refused call changes nothing but the fault.
 */
public final class RefusedTest {
    private static final int MIN = Integer.MIN_VALUE;
    private static final int MAX = Integer.MAX_VALUE;
    private static final int BATCH = 100;
    private static final String[] STATES = {
        "",
        EdgeRingTest.RICH,
        "ring(15) set(0,0,1) set(0,14,-1) set(1,14,3) set(2,14,5) miss(0) sheet(3,0) table(1,11) points(9) ",
        "ring(14) set(0,13,1) set(1,13,-1000) cast() undo() sheet(0,0) table(0,0) points(0) ",
        "ring(60) set(0,0,1) set(0,59,1) set(1,59,1000) set(2,59,-7) sheet(2,60) entry(59,9) entry(0,2) table(0,4) ",
        "mask(1,-1,0,0,1,-1) fill(1,1,2,3,4,5,6) fill(2,9,8,7,6,5,4) sheet(1,3) entry(2,1001) table(1,7) points(8) "};
    private static final Set<String> READERS = Set.of("at", "count", "shadow", "meets", "off", "fold", "back", "noise",
        "rank", "sure", "point", "sign", "product", "look", "fault");
    private static final String[] NONE_TAKEN = {"cast", "off", "anti", "undo", "rank", "lost", "solve", "sure", "twice", "fault"};
    private static final String[] ONE_TAKEN = {"ring", "lay", "miss", "count", "shadow", "meets", "turn", "rests", "twins",
        "shift", "back", "noise", "points", "look"};
    private static final String[] TWO_TAKEN = {"sheet", "entry", "at", "point", "table", "swap", "sign", "product"};
    private static final int[] TWO = {MIN, -61, -2, -1, 0, 1, 2, 3, 4, 5, 7, 8, 13, 14, 15, 16, 31, 32, 44, 45, 59, 60, 61, 200, MAX};
    private static final Checks C = new Checks();

    private final String before;
    private final List<String> batch = new ArrayList<>();
    private List<Long> was;
    private Script object;
    private Script plain;
    private int made;

    private RefusedTest(String before) {
        this.before = before;
    }

    public static void main(String[] args) {
        for (String before : STATES) {
            new RefusedTest(before).sweep();
        }
        C.finish();
    }

    private void sweep() {
        was = State.after("state", before);
        renew();
        for (String name : NONE_TAKEN) {
            ask(name);
        }
        Set<Integer> ones = edges();
        for (String name : ONE_TAKEN) {
            for (int v : ones) {
                ask(name, v);
            }
        }
        for (String name : TWO_TAKEN) {
            for (int a : TWO) {
                for (int b : TWO) {
                    ask(name, a, b);
                }
            }
        }
        sweepSet();
        sweepFold();
        settle();
    }

    private static Set<Integer> edges() {
        Set<Integer> ones = new TreeSet<>();
        for (int v = -66; v <= 66; v++) {
            ones.add(v);
        }
        for (int v : new int[] {MIN, MIN + 1, -65536, -1001, -1000, 199, 200, 201, 999, 1000, 1001, 65534, 65536, MAX - 1, MAX}) {
            ones.add(v);
        }
        return ones;
    }

    private void sweepSet() {
        for (int what : new int[] {MIN, -1, 0, 1, 2, 3, MAX}) {
            for (int place : new int[] {MIN, -1, 0, 1, 2, 3, 13, 14, 15, 59, 60, MAX}) {
                for (int v : new int[] {MIN, -1000001, -1000000, -1001, -1000, -2, -1, 0, 1, 2, 1000, 1001, 1000000, 1000001, MAX}) {
                    ask("set", what, place, v);
                }
            }
        }
    }

    private void sweepFold() {
        int[] sides = {MIN, -6, -1, 0, 1, 2, 3, 4, 5, 6, 7, 14, 15, 20, 60, MAX};
        int[] fields = {MIN, -1, 0, 1, 2, 3, 13, 14, 59, 60, MAX};
        for (int a : sides) {
            for (int b : sides) {
                for (int field = 0; field < fields.length * fields.length; field++) {
                    ask("fold", a, b, fields[field / fields.length], fields[field % fields.length]);
                }
            }
        }
    }

    private void renew() {
        object = new Script(C, before, Calls.of(new HoleMask())).run(before);
        plain = new Script(C, before, Calls.of(new PlainMask())).run(before);
        made = 0;
    }

    private void ask(String name, int... v) {
        String call = Script.written(name, v);
        String got = object.make(name, v) + " fault " + object.make("fault");
        String want = plain.make(name, v) + " fault " + plain.make("fault");
        C.due(before + call, got, want);
        boolean refused = !got.endsWith(" fault 0") && !READERS.contains(name);
        if (refused || READERS.contains(name)) {
            batch.add(call);
        }
        made++;
        if (batch.size() >= BATCH) {
            settle();
        }
        if (made >= BATCH || !refused && !READERS.contains(name)) {
            renew();
        }
    }

    /** None of the calls that were refused, or only read, may have changed a thing. */
    private void settle() {
        String calls = String.join(" ", batch);
        C.due(before + calls + ": what can be seen", State.after(calls, before + calls).toString(), was.toString());
        batch.clear();
    }
}
