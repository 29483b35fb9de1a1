import java.util.NoSuchElementException;

/** Counts answers that are not as due; each test ends by finish(). */
final class Checks {
    private int asked = 0;
    private int wrong = 0;

    void due(String call, long got, long want) {
        asked++;
        if (got != want) {
            wrong++;
            System.out.println(call + " answered " + got + ", due is " + want);
        }
    }

    void due(String call, boolean got, boolean want) {
        due(call, got ? 1 : 0, want ? 1 : 0);
    }

    void due(String call, String got, String want) {
        asked++;
        if (!got.equals(want)) {
            wrong++;
            System.out.println(call + " answered " + got + ", due is " + want);
        }
    }

    /** A refused call: its answer, and the fault behind it. */
    void refused(HoleMask x, String call, long got, long answer, int fault) {
        due(call, got, answer);
        due("fault() after " + call, x.fault(), fault);
    }

    void refused(HoleMask x, String call, boolean got, int fault) {
        refused(x, call, got ? 1 : 0, 0, fault);
    }

    /** A call that is not refused. */
    void taken(HoleMask x, String call, long got, long answer) {
        refused(x, call, got, answer, 0);
    }

    void taken(HoleMask x, String call, boolean got) {
        refused(x, call, got ? 1 : 0, 1, 0);
    }

    /** The numbers of a row, from place 0 on. */
    void row(HoleMask x, int what, int... want) {
        for (int i = 0; i < want.length; i++) {
            due("at(" + what + ", " + i + ")", x.at(what, i), want[i]);
        }
    }

    void backs(HoleMask x, int... want) {
        for (int j = 0; j < want.length; j++) {
            taken(x, "back(" + j + ")", x.back(j), want[j]);
        }
    }

    void noSuch(HoleMask x, int what, int place) {
        boolean thrown = false;
        try {
            x.at(what, place);
        } catch (NoSuchElementException e) {
            thrown = true;
        }
        due("at(" + what + ", " + place + ") throws", thrown, true);
    }

    void finish() {
        System.out.println(asked + " answers asked, " + wrong + " wrong");
        if (wrong != 0 || asked == 0) {
            System.exit(1);
        }
    }
}
