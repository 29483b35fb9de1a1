import java.util.Arrays;

/** Long runs of calls, ordinary and wild, on HoleMask and on PlainMask: all answers are alike. */
public final class ModelTest {
    private static final String[] CALLS = {"ring", "sheet", "entry", "lay", "set", "miss", "at",
        "count", "shadow", "cast", "meets", "off", "turn", "anti", "fold", "rests", "twins", "shift",
        "undo", "back", "noise", "rank", "lost", "solve", "sure", "points", "point", "table", "twice",
        "swap", "sign", "product", "look", "fault"};
    private static final int[] EDGES = {Integer.MIN_VALUE, Integer.MIN_VALUE + 1, -1000001, -1000000,
        -1001, -1000, -257, -129, -128, -61, -60, -2, -1, 0, 1, 2, 3, 4, 5, 6, 7, 8, 11, 13, 14, 15, 19,
        23, 29, 31, 32, 35, 59, 60, 61, 127, 128, 199, 200, 255, 1000, 1001, 32768, 65535, 1000000,
        1000001, 65537, Integer.MAX_VALUE - 1, Integer.MAX_VALUE};
    private static final Checks C = new Checks();
    /** A row of numbers that is the same at each run of the test. */
    private static long seed = 20261116;

    public static void main(String[] args) {
        for (int run = 0; run < 500; run++) {
            wildRun(run);
        }
        for (int run = 0; run < 400; run++) {
            undoingRun(run);
        }
        for (int run = 0; run < 300; run++) {
            pointsRun(run);
        }
        everyMask();
        C.finish();
    }

    private static int below(int bound) {
        seed = seed * 6364136223846793005L + 1442695040888963407L;
        return (int) Math.floorMod(seed >>> 33, (long) bound);
    }

    private static void same(Calls.Answerer x, Calls.Answerer plain, String name, int... v) {
        String want = String.valueOf(plain.call(name, v));
        C.due(name + Arrays.toString(v), String.valueOf(x.call(name, v)), want);
    }

    /** A call and its fault. */
    private static void both(Calls.Answerer x, Calls.Answerer plain, String name, int... v) {
        same(x, plain, name, v);
        same(x, plain, "fault");
    }

    private static void allOf(Calls.Answerer x, Calls.Answerer plain, int n) {
        for (int what = 0; what < 3; what++) {
            for (int i = 0; i <= n; i++) {
                same(x, plain, "at", what, i);
            }
        }
        for (int what = 0; what <= 8; what++) {
            same(x, plain, "count", what);
        }
    }

    /** Any calls with any numbers, small ones most. */
    private static void wildRun(int run) {
        Calls.Answerer x = Calls.of(new HoleMask());
        Calls.Answerer plain = Calls.of(new PlainMask());
        for (int step = 0; step < 150; step++) {
            int[] v = new int[4];
            for (int i = 0; i < 4; i++) {
                int kind = below(20);
                v[i] = kind < 9 ? below(4) : kind < 14 ? below(16) - 1 : kind < 17 ? below(3) - 1
                        : kind < 19 ? EDGES[below(EDGES.length)] : below(62);
            }
            String name = CALLS[below(CALLS.length)];
            boolean remake = name.equals("ring") || name.equals("twins") || name.equals("shift");
            both(x, plain, remake && below(3) > 0 ? "set" : name, v);
        }
        allOf(x, plain, 60);
    }

    private static int fillMask(Calls.Answerer x, Calls.Answerer plain, int n, int kinds) {
        same(x, plain, "ring", n);
        for (int i = 0; i < n; i++) {
            same(x, plain, "set", 0, i, kinds == 2 ? below(2) : kinds == 1 ? 2 * below(2) - 1 : below(3) - 1);
        }
        return n;
    }

    /** Masks of up to 14 places undone, solved, lost. */
    private static void undoingRun(int run) {
        Calls.Answerer x = Calls.of(new HoleMask());
        Calls.Answerer plain = Calls.of(new PlainMask());
        int n = fillMask(x, plain, run % 3 == 0 ? 14 : 1 + below(15), below(3));
        for (int i = 0; i < n; i++) {
            same(x, plain, "set", 1, i, below(2001) - 1000);
        }
        same(x, plain, "cast");
        both(x, plain, "undo");
        for (int j = 0; j < n; j++) {
            same(x, plain, "back", j);
        }
        both(x, plain, "noise", 0);
        both(x, plain, "noise", 1);
        same(x, plain, "set", 1, below(n), 17);
        both(x, plain, "rank");
        both(x, plain, "sure");
        both(x, plain, "solve");
        allOf(x, plain, n);
        same(x, plain, "set", 2, below(n), below(2000001) - 1000000);
        both(x, plain, "solve");
        both(x, plain, "lost");
        allOf(x, plain, n);
        same(x, plain, "miss", below(n));
        both(x, plain, "sure");
        both(x, plain, "solve");
    }

    /** Points under masks of all kinds, with some readings missing or off. */
    private static void pointsRun(int run) {
        Calls.Answerer x = Calls.of(new HoleMask());
        Calls.Answerer plain = Calls.of(new PlainMask());
        int n = fillMask(x, plain, run % 10 == 0 ? 60 : 1 + below(24), below(3));
        same(x, plain, "set", 1, below(n), below(10));
        same(x, plain, "set", 1, below(n), below(10));
        same(x, plain, "cast");
        for (int i = 0; i < n; i++) {
            if (below(4) == 0) {
                same(x, plain, "set", 2, i, below(21) - 10);
            }
            if (below(3) == 0 || run % 5 == 1) {
                same(x, plain, "miss", i);
            }
        }
        int[] misses = {0, 1, 3, 9, 15, 18, 1000};
        for (int miss : misses) {
            both(x, plain, "points", miss);
            for (int look = 0; look < 9; look++) {
                int i = below(look < 5 ? 12 : 202);
                same(x, plain, "point", i, 0);
                same(x, plain, "point", i, 1);
                same(x, plain, "point", i, 2);
                same(x, plain, "point", i, 3);
            }
        }
        same(x, plain, "count", 7);
    }

    /** Each mask of -1, 0, 1 on rings of up to six places. */
    private static void everyMask() {
        for (int n = 1, masks = 3; n <= 6; n++, masks *= 3) {
            for (int code = 0; code < masks; code++) {
                Calls.Answerer x = Calls.of(new HoleMask());
                Calls.Answerer plain = Calls.of(new PlainMask());
                same(x, plain, "ring", n);
                for (int i = 0, rest = code; i < n; i++, rest /= 3) {
                    same(x, plain, "set", 0, i, rest % 3 - 1);
                }
                same(x, plain, "undo");
                for (int j = 0; j < n; j++) {
                    same(x, plain, "back", j);
                }
                same(x, plain, "rank");
                same(x, plain, "off");
                same(x, plain, "lost");
                same(x, plain, "at", 1, 0);
                same(x, plain, "at", 1, n - 1);
                same(x, plain, "shadow", n / 2);
            }
        }
    }
}
