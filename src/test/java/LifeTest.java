import java.util.ArrayList;
import java.util.List;

/** The whole life of an object, 512 calls: the last call answers as well as the first. */
public final class LifeTest {
    private static final int CALLS = 512;
    private static final String[] REPEATED = {"ring(60)", "ring(0)", "sheet(2,60)", "sheet(3,0)", "sheet(0,-1)", "entry(4,9)",
        "entry(5,9)", "sheet(0,3) lay(1)", "lay(2)", "set(0,0,1)", "set(1,2,-9)", "set(2,2,1000000)", "miss(0)", "at(0,0)",
        "at(2,1)", "count(4)", "count(8)", "shadow(2)", "cast()", "meets(1)", "off()", "turn(1)", "turn(MIN)", "anti()",
        "fold(1,3,0,2)", "rests(11)", "rests(4)", "twins(3)", "shift(4)", "undo()", "back(1)", "noise(0)", "rank()", "lost()",
        "cast() solve()", "solve()", "sure()", "points(9)", "point(44,3)", "table(1,31)", "table(0,5)", "twice()", "swap(1,1)",
        "swap(0,1)", "sign(1,1)", "product(1,2)", "look(3)", "fault()"};
    private static final Checks C = new Checks();

    public static void main(String[] args) {
        for (String calls : REPEATED) {
            repeated(calls);
        }
        apart();
        nothingKept();
        C.finish();
    }

    /** The same calls until 512 are made, each as the plain model answers. */
    private static void repeated(String calls) {
        Script object = new Script(C, calls, Calls.of(new HoleMask())).run(EdgeRingTest.RICH);
        Script plain = new Script(C, calls, Calls.of(new PlainMask())).run(EdgeRingTest.RICH);
        String[] parts = calls.split(" ");
        for (int i = 0; object.made() < CALLS; i++) {
            String part = parts[i % parts.length];
            String name = part.substring(0, part.indexOf('('));
            int[] v = Script.numbers(part.substring(name.length() + 1, part.length() - 1));
            String call = part + " as call " + (object.made() + 1);
            C.due(call, String.valueOf(object.make(name, v)), String.valueOf(plain.make(name, v)));
        }
    }

    /** Two objects have nothing in common: calls on one are not seen on the other. */
    private static void apart() {
        HoleMask x = new HoleMask();
        HoleMask y = new HoleMask();
        new Script(C, "the other", Calls.of(y)).run(EdgeRingTest.RICH);
        new Script(C, "still new", Calls.of(x)).run("fault()=0 count(0)=1 count(1)=0 count(3)=0 count(5)=-1 count(6)=-1 "
            + "count(7)=0 row(0)=0 row(1)=0 row(2)=0 back(0)=0!2 point(0,0)=-1 sign(0,0)=0 "
            + "ring(14) all(0,1) table(0,5) sheet(2,60) points(0) undo() ring(0)");
        new Script(C, "as it was", Calls.of(y)).run("fault()=0 row(0)=1,1,0 row(1)=7,-8,9 at(2,0)=5 at(2,1)=throws "
            + "backs()=1,-1,1 noise(0)=3 count(7)=45 told(44)=1,3,2,1 count(5)=4 signs(1)=1,-1,-1,1 count(6)=5");
        new Script(C, "as it was", Calls.of(x)).run("ring(0)=false!1 count(0)=14 count(1)=14 count(5)=32 count(6)=60");
    }

    /** The same calls give the same answers on each new object, whatever ran on others ahead of it. */
    private static void nothingKept() {
        List<Long> first = State.after("first", EdgeRingTest.RICH);
        List<Long> wide = new ArrayList<>(State.after("wide", EdgeRingTest.WIDE));
        C.due("again", State.after("again", EdgeRingTest.RICH).toString(), first.toString());
        C.due("wide again", State.after("wide again", EdgeRingTest.WIDE).toString(), wide.toString());
    }
}
