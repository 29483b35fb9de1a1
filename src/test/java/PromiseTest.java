/** Each promise of the document by hand: ordinary inputs, edges and wrong inputs. */
public final class PromiseTest {
    private static final int LEAST = Integer.MIN_VALUE;
    private static final int MOST = Integer.MAX_VALUE;
    private static final Checks C = new Checks();

    public static void main(String[] args) {
        newObject();
        ring();
        sheet();
        entry();
        layRows();
        layRefused();
        set();
        miss();
        at();
        count();
        shadowAndCast();
        meetsAndOff();
        turn();
        anti();
        fold();
        rests();
        twins();
        shift();
        undoBackNoise();
        backForgotten();
        rankAndLost();
        solve();
        sure();
        points();
        pointsInOrder();
        table();
        twice();
        swap();
        sign();
        product();
        look();
        fault();
        widestRing();
        wholeLife();
        C.finish();
    }

    private static HoleMask masked(int... mask) {
        HoleMask x = new HoleMask();
        x.ring(mask.length);
        for (int i = 0; i < mask.length; i++) {
            x.set(0, i, mask[i]);
        }
        return x;
    }

    private static void fill(HoleMask x, int what, int... numbers) {
        for (int i = 0; i < numbers.length; i++) {
            C.taken(x, "set(" + what + ", " + i + ", " + numbers[i] + ")", x.set(what, i, numbers[i]));
        }
    }

    private static void newObject() {
        HoleMask x = new HoleMask();
        C.due("fault() of a new one", x.fault(), 0);
        C.taken(x, "count(0)", x.count(0), 1);
        C.row(x, 0, 0);
        C.row(x, 1, 0);
        C.row(x, 2, 0);
        C.noSuch(x, 0, 1);
        C.taken(x, "count(5)", x.count(5), -1);
        C.taken(x, "count(6)", x.count(6), -1);
        C.taken(x, "count(7)", x.count(7), 0);
        C.refused(x, "back(0)", x.back(0), 0, 2);
        C.refused(x, "lay(0)", x.lay(0), 2);
        C.taken(x, "point(0, 0)", x.point(0, 0), -1);
    }

    private static void ring() {
        HoleMask x = masked(1, 0, 1);
        x.set(1, 1, 7);
        x.set(2, 2, 8);
        x.miss(0);
        x.undo();
        x.table(0, 1);
        x.sheet(2, 4);
        for (int n : new int[] {0, -1, 61, LEAST, MOST}) {
            C.refused(x, "ring(" + n + ")", x.ring(n), 1);
        }
        C.due("count(0)", x.count(0), 3);
        C.due("back(0) still", x.back(0) != 0, true);
        C.taken(x, "ring(3)", x.ring(3));
        C.row(x, 0, 0, 0, 0);
        C.row(x, 1, 0, 0, 0);
        C.row(x, 2, 0, 0, 0);
        C.refused(x, "back(0)", x.back(0), 0, 2);
        C.due("count(5)", x.count(5), 2);
        C.due("count(6)", x.count(6), 4);
        C.taken(x, "ring(60)", x.ring(60));
        C.due("count(0)", x.count(0), 60);
        C.taken(x, "set(1, 59, 3)", x.set(1, 59, 3));
        C.taken(x, "ring(1)", x.ring(1));
        x.ring(60);
        C.due("at(1, 59)", x.at(1, 59), 0);
    }

    private static void sheet() {
        HoleMask x = new HoleMask();
        C.taken(x, "sheet(0, 60)", x.sheet(0, 60), 60);
        C.taken(x, "sheet(1, 0)", x.sheet(1, 0), 0);
        C.due("count(6)", x.count(6), 0);
        C.taken(x, "sheet(2, 5)", x.sheet(2, 5), 5);
        C.refused(x, "sheet(4, 1)", x.sheet(4, 1), -1, 1);
        C.refused(x, "sheet(-1, 1)", x.sheet(-1, 1), -1, 1);
        C.refused(x, "sheet(4, -1)", x.sheet(4, -1), -1, 1);
        C.refused(x, "sheet(2, 61)", x.sheet(2, 61), -1, 1);
        C.refused(x, "sheet(0, MOST)", x.sheet(0, MOST), -1, 1);
        C.refused(x, "sheet(0, -1)", x.sheet(0, -1), -1, 4);
        C.refused(x, "sheet(2, LEAST)", x.sheet(2, LEAST), -1, 4);
        C.due("count(6)", x.count(6), 5);
        x.entry(0, 1);
        C.taken(x, "sheet(2, 5)", x.sheet(2, 5), 5);
        C.taken(x, "lay(1)", x.lay(1));
        C.row(x, 1, 0);
        C.taken(x, "sheet(3, -9)", x.sheet(3, -9), 0);
        C.taken(x, "sheet(3, 99)", x.sheet(3, 99), 0);
        C.taken(x, "count(6)", x.count(6), 0);
    }

    private static void entry() {
        HoleMask x = new HoleMask();
        x.ring(3);
        C.refused(x, "entry(-1, 0)", x.entry(-1, 0), 2);
        x.sheet(3, 3);
        C.refused(x, "entry(0, 0)", x.entry(0, 0), 2);
        C.refused(x, "entry(-1, 0)", x.entry(-1, 0), 2);
        x.sheet(0, 3);
        C.refused(x, "entry(3, 0)", x.entry(3, 0), 1);
        C.refused(x, "entry(-1, 0)", x.entry(-1, 0), 1);
        C.refused(x, "entry(LEAST, 0)", x.entry(LEAST, 0), 1);
        C.taken(x, "entry(0, 128)", x.entry(0, 128));
        C.taken(x, "entry(1, 127)", x.entry(1, 127));
        C.taken(x, "entry(2, -257)", x.entry(2, -257));
        x.lay(1);
        C.row(x, 1, -128, 127, -1);
        x.sheet(1, 3);
        x.entry(0, 32768);
        x.entry(1, 65536 + 999);
        x.entry(2, -32769);
        x.lay(2);
        C.row(x, 2, -32768, 999, 32767);
        x.sheet(2, 3);
        x.entry(0, 1000000);
        x.entry(1, -1000000);
        x.entry(2, 65536);
        x.lay(2);
        C.row(x, 2, 1000000, -1000000, 65536);
        x.sheet(0, 0);
        C.refused(x, "entry(0, 0)", x.entry(0, 0), 1);
    }

    private static void layRows() {
        HoleMask x = masked(1, 1, -1);
        fill(x, 2, 5, 6, 7);
        x.miss(1);
        x.sheet(2, 5);
        x.entry(0, 1000);
        x.entry(1, -1000);
        x.entry(4, MOST);
        x.undo();
        C.taken(x, "lay(1)", x.lay(1));
        C.row(x, 1, 1000, -1000, 0);
        C.row(x, 0, 1, 1, -1);
        C.due("back(0) still", x.back(0) != 0, true);
        C.taken(x, "count(6)", x.count(6), -1);
        C.refused(x, "lay(1)", x.lay(1), 2);
        x.sheet(1, 2);
        x.entry(1, -3);
        C.taken(x, "lay(2)", x.lay(2));
        C.row(x, 2, 0, -3, 0);
        C.due("count(3)", x.count(3), 0);
        C.due("back(0) still", x.back(0) != 0, true);
        x.sheet(0, 1);
        x.entry(0, -1);
        C.taken(x, "lay(0)", x.lay(0));
        C.row(x, 0, -1, 0, 0);
        C.refused(x, "back(0)", x.back(0), 0, 2);
        x.sheet(3, 0);
        C.taken(x, "lay(0)", x.lay(0));
        C.row(x, 0, 0, 0, 0);
        x.sheet(3, 0);
        x.miss(2);
        C.taken(x, "lay(2)", x.lay(2));
        C.row(x, 2, 0, 0, 0);
    }

    private static void layRefused() {
        HoleMask x = masked(1, 0);
        C.refused(x, "lay(3)", x.lay(3), 1);
        C.refused(x, "lay(-1)", x.lay(-1), 1);
        x.sheet(2, 3);
        x.entry(0, 1);
        x.entry(1, 2);
        x.undo();
        C.refused(x, "lay(0)", x.lay(0), 1);
        C.row(x, 0, 1, 0);
        C.due("back(0) still", x.back(0), 1);
        C.refused(x, "lay(LEAST)", x.lay(LEAST), 1);
        x.entry(1, -1001);
        C.refused(x, "lay(1)", x.lay(1), 1);
        x.entry(1, 1000001);
        C.refused(x, "lay(2)", x.lay(2), 1);
        x.entry(1, LEAST);
        C.refused(x, "lay(2)", x.lay(2), 1);
        C.row(x, 2, 0, 0);
        C.due("count(6)", x.count(6), 3);
        x.entry(1, -1000000);
        C.taken(x, "lay(2)", x.lay(2));
        C.row(x, 2, 1, -1000000);
    }

    private static void set() {
        HoleMask x = new HoleMask();
        x.ring(4);
        int[] limits = {1, 1000, 1000000};
        for (int what = 0; what < 3; what++) {
            C.taken(x, "set most", x.set(what, 3, limits[what]));
            C.taken(x, "set least", x.set(what, 0, -limits[what]));
            C.refused(x, "set above", x.set(what, 0, limits[what] + 1), 1);
            C.refused(x, "set below", x.set(what, 0, -limits[what] - 1), 1);
            C.refused(x, "set LEAST", x.set(what, 0, LEAST), 1);
            C.refused(x, "set MOST", x.set(what, 0, MOST), 1);
            C.refused(x, "set at 4", x.set(what, 4, 0), 1);
            C.refused(x, "set at -1", x.set(what, -1, 0), 1);
            C.row(x, what, -limits[what], 0, 0, limits[what]);
        }
        C.refused(x, "set(3, 0, 0)", x.set(3, 0, 0), 1);
        C.refused(x, "set(-1, 0, 0)", x.set(-1, 0, 0), 1);
        C.refused(x, "set(MOST, 0, 0)", x.set(MOST, 0, 0), 1);
    }

    private static void miss() {
        HoleMask x = new HoleMask();
        x.ring(3);
        C.taken(x, "miss(2)", x.miss(2));
        C.taken(x, "miss(2)", x.miss(2));
        C.due("count(3)", x.count(3), 1);
        C.noSuch(x, 2, 2);
        C.row(x, 1, 0, 0, 0);
        C.refused(x, "miss(3)", x.miss(3), 1);
        C.refused(x, "miss(-1)", x.miss(-1), 1);
        C.taken(x, "set(2, 2, -4)", x.set(2, 2, -4));
        C.row(x, 2, 0, 0, -4);
        C.due("count(3)", x.count(3), 0);
        x.miss(0);
        x.miss(1);
        C.due("count(3)", x.count(3), 2);
        x.cast();
        C.due("count(3)", x.count(3), 0);
    }

    private static void at() {
        HoleMask x = new HoleMask();
        x.ring(2);
        x.miss(1);
        x.meets(5);
        C.noSuch(x, 2, 1);
        C.noSuch(x, 3, 0);
        C.noSuch(x, -1, 0);
        C.noSuch(x, LEAST, 0);
        C.noSuch(x, 0, 2);
        C.noSuch(x, 1, -1);
        C.noSuch(x, 2, MOST);
        C.row(x, 2, 0);
        C.due("fault() past at()", x.fault(), 1);
        x.meets(0);
        C.noSuch(x, 0, 2);
        C.due("fault() past at()", x.fault(), 0);
    }

    private static void count() {
        HoleMask x = masked(1, -1, 1, 1, 0);
        C.taken(x, "count(0)", x.count(0), 5);
        C.taken(x, "count(1)", x.count(1), 3);
        C.taken(x, "count(2)", x.count(2), 1);
        x.miss(4);
        C.taken(x, "count(3)", x.count(3), 1);
        C.taken(x, "count(4)", x.count(4), 0);
        x.table(1, 11);
        C.taken(x, "count(5)", x.count(5), 12);
        x.sheet(1, 9);
        C.taken(x, "count(6)", x.count(6), 9);
        C.refused(x, "count(8)", x.count(8), -1, 1);
        C.refused(x, "count(-1)", x.count(-1), -1, 1);
        C.refused(x, "count(LEAST)", x.count(LEAST), -1, 1);
        C.due("count(4), all holes", masked(1, 1, 1, 1).count(4), 1);
        C.due("count(4), n = 2", masked(1, 0).count(4), 1);
        C.due("count(4), n = 1", masked(-1).count(4), 1);
    }

    private static void shadowAndCast() {
        HoleMask x = masked(1, -1, 0, 0);
        fill(x, 1, 10, 3, -7, 1000);
        int[] want = {7, 10, -1007, 990};
        for (int s = 0; s < 4; s++) {
            C.taken(x, "shadow(" + s + ")", x.shadow(s), want[s]);
        }
        C.refused(x, "shadow(4)", x.shadow(4), 0, 1);
        C.refused(x, "shadow(-1)", x.shadow(-1), 0, 1);
        x.miss(1);
        C.taken(x, "cast()", x.cast());
        C.row(x, 2, want);
        C.row(x, 1, 10, 3, -7, 1000);
        HoleMask wide = new HoleMask();
        wide.ring(60);
        wide.anti();
        for (int i = 0; i < 60; i++) {
            wide.set(1, i, -1000);
        }
        wide.cast();
        C.due("at(2, 59)", wide.at(2, 59), -60000);
    }

    private static void meetsAndOff() {
        HoleMask x = masked(1, 1, 0, 1, 0);
        int[] want = {3, 1, 2, 2, 1};
        for (int k = 0; k < 5; k++) {
            C.taken(x, "meets(" + k + ")", x.meets(k), want[k]);
        }
        C.refused(x, "meets(5)", x.meets(5), 0, 1);
        C.refused(x, "meets(-1)", x.meets(-1), 0, 1);
        C.taken(x, "off()", x.off(), 2);
        C.due("off() at 4", masked(1, 0, 0, 0, 0, 0, 1, 0, 1).off(), 4);
        HoleMask late = masked(1, 0, 0, 1, 0, 0, 0);
        C.due("off() at 3", late.off(), 3);
        HoleMask signs = masked(-1, 1, 1, 1);
        C.due("meets(1) of signs", signs.meets(1), 0);
        C.taken(signs, "off() of signs", signs.off(), -1);
        C.taken(signs, "off() of n 1", new HoleMask().off(), -1);
        C.due("off() of n 2", masked(1, -1).off(), -1);
    }

    private static void turn() {
        HoleMask x = masked(1, 0, -1, 0, 0);
        fill(x, 1, 1, 2, 3, 4, 5);
        x.undo();
        C.taken(x, "turn(2)", x.turn(2));
        C.row(x, 0, -1, 0, 0, 1, 0);
        C.row(x, 1, 1, 2, 3, 4, 5);
        C.taken(x, "turn(-2)", x.turn(-2));
        C.row(x, 0, 1, 0, -1, 0, 0);
        C.taken(x, "turn(MOST)", x.turn(MOST));
        C.row(x, 0, -1, 0, 0, 1, 0);
        C.taken(x, "turn(LEAST)", x.turn(LEAST));
        C.row(x, 0, 0, 1, 0, -1, 0);
        C.taken(x, "turn(5)", x.turn(5));
        C.row(x, 0, 0, 1, 0, -1, 0);
    }

    private static void anti() {
        HoleMask x = masked(1, 0, 0);
        x.undo();
        C.taken(x, "anti()", x.anti());
        C.row(x, 0, 0, 1, 1);
        C.refused(x, "back(0)", x.back(0), 0, 2);
        x.undo();
        x.set(0, 0, -1);
        x.undo();
        C.refused(x, "anti()", x.anti(), 1);
        C.row(x, 0, -1, 1, 1);
        C.due("back(0) still", x.back(1) != 0, true);
    }

    private static void fold() {
        HoleMask x = masked(1, -1, 0, 0, 1, 1);
        int[][] board = {{1, 1, 0}, {0, -1, 1}};
        for (int a = 0; a < 2; a++) {
            for (int b = 0; b < 3; b++) {
                C.taken(x, "fold(2, 3, ..)", x.fold(2, 3, a, b), board[a][b]);
                C.taken(x, "fold(3, 2, ..)", x.fold(3, 2, b, a), board[a][b]);
            }
        }
        C.taken(x, "fold(1, 6, 0, 5)", x.fold(1, 6, 0, 5), 1);
        int[][] wrong = {{2, 3, 2, 0}, {2, 3, 0, 3}, {2, 3, -1, 1}, {2, 3, 1, -1}, {2, 2, 0, 0},
            {-2, -3, 0, 0}, {0, 6, 0, 0}, {6, 0, 0, 0}, {MOST, MOST, 0, 0}, {LEAST, LEAST, 0, 0}};
        for (int[] w : wrong) {
            C.refused(x, "fold of wrong ones", x.fold(w[0], w[1], w[2], w[3]), 0, 1);
        }
        HoleMask even = masked(1, 1, 1, 1);
        C.refused(even, "fold(2, 2, 0, 0)", even.fold(2, 2, 0, 0), 0, 1);
        HoleMask one = masked(1);
        C.taken(one, "fold(1, 1, 0, 0)", one.fold(1, 1, 0, 0), 1);
        wrapRound();
    }

    /** Every odd a has a b with a * b = 1 in ints that wrap round. */
    private static void wrapRound() {
        HoleMask one = masked(1);
        for (int a = 3; a < 400; a += 2) {
            int b = a;
            for (int step = 0; step < 5; step++) {
                b *= 2 - a * b;
            }
            if (a * b == 1 && b > 0) {
                C.refused(one, "fold(" + a + ", " + b + ", 0, 0)", one.fold(a, b, 0, 0), 0, 1);
            }
        }
    }

    private static void rests() {
        HoleMask x = masked(1, 1);
        x.set(1, 0, 4);
        for (int p : new int[] {0, 1, 2, 5, 9, 13, 15, 27, 35, 39, 51, 55, 61, 63, 67, 71, -1, LEAST, MOST}) {
            C.refused(x, "rests(" + p + ")", x.rests(p), -1, 1);
        }
        C.row(x, 0, 1, 1);
        C.row(x, 1, 4, 0);
        x.undo();
        C.taken(x, "rests(11)", x.rests(11), 5);
        C.row(x, 0, 0, 1, 0, 1, 1, 1, 0, 0, 0, 1, 0);
        C.row(x, 1, 0);
        C.due("count(0)", x.count(0), 11);
        for (int p : new int[] {3, 7, 19, 23, 31, 43, 47, 59}) {
            C.taken(x, "rests(" + p + ")", x.rests(p), (p - 1) / 2);
            C.due("count(4)", x.count(4), 1);
            C.due("meets(1)", x.meets(1), (p - 3) / 4);
        }
    }

    private static void twins() {
        HoleMask x = masked(1, 0, 1);
        for (int p : new int[] {0, 1, 2, 4, 7, 11, 17, 29, 59, -3, -5, LEAST, MOST, 65536, 46341}) {
            C.refused(x, "twins(" + p + ")", x.twins(p), -1, 1);
        }
        C.row(x, 0, 1, 0, 1);
        x.undo();
        C.taken(x, "twins(3)", x.twins(3), 7);
        C.row(x, 0, 1, 1, 1, 0, 1, 1, 0, 0, 1, 0, 1, 0, 0, 0, 0);
        C.refused(x, "back(0)", x.back(0), 0, 2);
        C.taken(x, "twins(5)", x.twins(5), 17);
        C.due("count(0)", x.count(0), 35);
        C.due("count(4)", x.count(4), 1);
        C.due("at(0, 5)", x.at(0, 5), 0);
        C.due("at(0, 14)", x.at(0, 14), 1);
    }

    private static void shift() {
        HoleMask x = masked(1, 0);
        for (int r : new int[] {1, 0, -1, 6, 32, 33, LEAST, MOST}) {
            C.refused(x, "shift(" + r + ")", x.shift(r), -1, 1);
        }
        C.row(x, 0, 1, 0);
        x.undo();
        C.taken(x, "shift(2)", x.shift(2), 3);
        C.row(x, 0, 0, 1, 1);
        C.refused(x, "back(0)", x.back(0), 0, 2);
        C.taken(x, "shift(3)", x.shift(3), 3);
        C.row(x, 0, 0, 0, 1, 0, 1, 1, 1);
        C.taken(x, "shift(4)", x.shift(4), 3);
        C.row(x, 0, 0, 0, 0, 1, 0, 0, 1, 1, 0, 1, 0, 1, 1, 1, 1);
        C.taken(x, "shift(5)", x.shift(5), 5);
        C.row(x, 0, 0, 0, 0, 0, 1, 0, 0, 1, 0, 1, 1, 0, 0, 1, 1, 1);
        C.due("count(0)", x.count(0), 31);
    }

    private static void undoBackNoise() {
        HoleMask x = masked(1, 1, 0);
        C.refused(x, "noise(0)", x.noise(0), 0, 2);
        C.taken(x, "undo()", x.undo(), 2);
        C.backs(x, 1, -1, 1);
        C.taken(x, "noise(0)", x.noise(0), 3);
        C.taken(x, "noise(1)", x.noise(1), 4);
        C.refused(x, "noise(2)", x.noise(2), 0, 1);
        C.refused(x, "noise(-1)", x.noise(-1), 0, 1);
        C.refused(x, "back(3)", x.back(3), 0, 1);
        C.refused(x, "back(-1)", x.back(-1), 0, 1);
        HoleMask turned = masked(0, 1, 0, 0);
        C.taken(turned, "undo()", turned.undo(), 1);
        C.backs(turned, 0, 0, 0, 1);
        HoleMask less = masked(0, 0, -1);
        C.taken(less, "undo()", less.undo(), 1);
        C.backs(less, 0, -1, 0);
        HoleMask no = masked(1, -1, 0);
        C.taken(no, "undo()", no.undo(), 0);
        C.refused(no, "back(0)", no.back(0), 0, 2);
        C.refused(no, "back(3)", no.back(3), 0, 1);
        C.refused(no, "noise(2)", no.noise(2), 0, 1);
        C.refused(no, "noise(1)", no.noise(1), 0, 2);
        HoleMask large = new HoleMask();
        large.ring(15);
        large.set(0, 0, 1);
        C.refused(large, "undo()", large.undo(), -1, 1);
        C.refused(large, "back(14)", large.back(14), 0, 2);
        C.refused(large, "back(15)", large.back(15), 0, 1);
        large.ring(14);
        large.set(0, 13, 1);
        C.taken(large, "undo()", large.undo(), 1);
        C.taken(large, "back(1)", large.back(1), 1);
        C.taken(large, "back(13)", large.back(13), 0);
    }

    private static void backForgotten() {
        HoleMask x = masked(1, 1, 0);
        x.undo();
        x.set(1, 0, 9);
        x.cast();
        x.solve();
        x.lost();
        x.rank();
        x.sure();
        x.miss(0);
        x.table(0, 2);
        x.points(0);
        x.rests(4);
        x.set(0, 0, 2);
        C.backs(x, 1, -1, 1);
        x.set(0, 0, 1);
        C.refused(x, "back(0) after set", x.back(0), 0, 2);
        x.undo();
        x.turn(0);
        C.refused(x, "back(0) after turn", x.back(0), 0, 2);
        x.cast();
        C.due("solve()", x.solve(), 1);
        C.refused(x, "back(0) after solve", x.back(0), 0, 2);
        x.undo();
        x.rests(3);
        C.refused(x, "back(0) after rests", x.back(0), 0, 2);
    }

    private static void rankAndLost() {
        HoleMask x = masked(1, 1, 0, 0, 0, 0);
        C.taken(x, "rank()", x.rank(), 5);
        fill(x, 1, 9, 9, 9, 9, 9, 9);
        C.taken(x, "lost()", x.lost(), 5);
        C.row(x, 1, -1, 1, -1, 1, -1, 1);
        HoleMask thirds = masked(1, 0, 0, -1, 0, 0);
        C.taken(thirds, "rank()", thirds.rank(), 3);
        thirds.set(1, 5, 8);
        C.taken(thirds, "lost()", thirds.lost(), 3);
        C.row(thirds, 1, 1, 0, 0, 1, 0, 0);
        HoleMask ones = masked(1, 1, 1, 1);
        C.taken(ones, "rank()", ones.rank(), 1);
        C.taken(ones, "lost()", ones.lost(), 1);
        C.row(ones, 1, -1, 1, 0, 0);
        HoleMask none = masked(0, 0, 0);
        C.taken(none, "rank()", none.rank(), 0);
        none.set(1, 2, 6);
        C.taken(none, "lost()", none.lost(), 0);
        C.row(none, 1, 1, 0, 0);
        HoleMask whole = masked(1, 1, 0);
        whole.set(1, 1, 6);
        C.taken(whole, "rank()", whole.rank(), 3);
        C.taken(whole, "lost()", whole.lost(), -1);
        C.row(whole, 1, 0, 6, 0);
        whole.ring(15);
        C.refused(whole, "rank()", whole.rank(), -1, 1);
        C.refused(whole, "lost()", whole.lost(), -1, 1);
    }

    private static void solve() {
        HoleMask x = masked(1, 1, 0);
        fill(x, 1, 1000, -1000, 3);
        x.cast();
        fill(x, 1, 0, 0, 0);
        C.taken(x, "solve()", x.solve(), 1);
        C.row(x, 1, 1000, -1000, 3);
        x.set(2, 0, 1);
        C.taken(x, "solve() of halves", x.solve(), -2);
        C.row(x, 1, 1000, -1000, 3);
        fill(x, 2, 1001, 0, 1001);
        C.taken(x, "solve() above 1000", x.solve(), -2);
        fill(x, 2, -1001, 0, -1001);
        C.taken(x, "solve() below -1000", x.solve(), -2);
        fill(x, 2, -1000, 0, -1000);
        C.taken(x, "solve()", x.solve(), 1);
        C.row(x, 1, -1000, 0, 0);
        x.miss(2);
        C.refused(x, "solve()", x.solve(), -1, 1);
        x.ring(2);
        C.taken(x, "solve() without holes", x.solve(), 0);
        x.miss(1);
        C.refused(x, "solve()", x.solve(), -1, 1);
        x.ring(15);
        C.refused(x, "solve()", x.solve(), -1, 1);
    }

    private static void sure() {
        HoleMask x = masked(1, 1, 0);
        C.taken(x, "sure()", x.sure(), 1);
        x.miss(1);
        C.taken(x, "sure()", x.sure(), 0);
        x.set(2, 1, 0);
        C.taken(x, "sure()", x.sure(), 1);
        x.set(0, 0, -1);
        C.taken(x, "sure()", x.sure(), 0);
        x.ring(1);
        C.taken(x, "sure()", x.sure(), 0);
        x.set(0, 0, 1);
        C.taken(x, "sure()", x.sure(), 1);
        x.ring(15);
        C.refused(x, "sure()", x.sure(), -1, 1);
    }

    private static void scene(HoleMask x, int i, int a, int heightA, int b, int heightB) {
        int[] want = {a, heightA, b, heightB};
        for (int what = 0; what < 4; what++) {
            C.taken(x, "point(" + i + ", " + what + ")", x.point(i, what), want[what]);
        }
    }

    private static void points() {
        HoleMask x = masked(1, -1, 0, 0);
        x.set(1, 1, 2);
        x.set(1, 3, 9);
        x.cast();
        C.taken(x, "points(0)", x.points(0), 1);
        scene(x, 0, 1, 2, 3, 9);
        C.taken(x, "points(1)", x.points(1), 6);
        scene(x, 0, 1, 1, 3, 8);
        scene(x, 1, 1, 1, 3, 9);
        scene(x, 2, 1, 2, 3, 8);
        scene(x, 3, 1, 2, 3, 9);
        scene(x, 4, 1, 3, 3, 8);
        scene(x, 5, 1, 3, 3, 9);
        C.refused(x, "points(-1)", x.points(-1), -1, 1);
        C.refused(x, "points(1001)", x.points(1001), -1, 1);
        C.refused(x, "points(LEAST)", x.points(LEAST), -1, 1);
        C.due("count(7)", x.count(7), 6);
        scene(x, 5, 1, 3, 3, 9);
        C.taken(x, "point(6, 1)", x.point(6, 1), -1);
        C.taken(x, "point(-1, 1)", x.point(-1, 1), -1);
        C.taken(x, "point(0, 4)", x.point(0, 4), -1);
        C.taken(x, "point(0, -1)", x.point(0, -1), -1);
        C.taken(x, "point(MOST, MOST)", x.point(MOST, MOST), -1);
        C.taken(x, "point(LEAST, LEAST)", x.point(LEAST, LEAST), -1);
        x.ring(3);
        scene(x, 5, 1, 3, 3, 9);
        C.due("count(7)", x.count(7), 6);
        x.set(2, 0, 1000000);
        C.taken(x, "points(1000)", x.points(1000), 0);
        C.taken(x, "point(0, 0)", x.point(0, 0), -1);
    }

    private static void pointsInOrder() {
        HoleMask x = new HoleMask();
        C.taken(x, "points(0) of n 1", x.points(0), 10);
        scene(x, 0, -1, 0, -1, 0);
        scene(x, 9, 0, 9, -1, 0);
        x.ring(60);
        C.taken(x, "points(1000) of n 60", x.points(1000), 1 + 540 + 1770 * 81);
        scene(x, 199, 22, 1, -1, 0);
        C.taken(x, "point(200, 1)", x.point(200, 1), -1);
        C.taken(x, "count(7)", x.count(7), 143911);
        x.ring(3);
        C.taken(x, "points(0) of n 3", x.points(0), 1 + 27 + 243);
        scene(x, 28, 0, 1, 1, 1);
        scene(x, 36, 0, 1, 1, 9);
        scene(x, 37, 0, 1, 2, 1);
        scene(x, 45, 0, 1, 2, 9);
        scene(x, 46, 0, 2, 1, 1);
        scene(x, 190, 1, 1, 2, 1);
        scene(x, 199, 1, 2, 2, 1);
        x.set(0, 0, 1);
        x.set(0, 2, -1);
        x.set(2, 1, 6);
        x.miss(0);
        x.miss(2);
        // the reading at 1 sees place 1 and less of place 0
        C.taken(x, "points(0) with misses", x.points(0), 13);
        scene(x, 0, 1, 6, -1, 0);
        scene(x, 1, 0, 1, 1, 7);
        scene(x, 3, 0, 3, 1, 9);
        scene(x, 4, 1, 6, 2, 1);
        scene(x, 12, 1, 6, 2, 9);
        C.taken(x, "point(13, 0)", x.point(13, 0), -1);
    }

    private static void table() {
        HoleMask x = new HoleMask();
        for (int k = 0; k <= 5; k++) {
            C.taken(x, "table(0, " + k + ")", x.table(0, k), 1 << k);
        }
        C.due("sign(7, 31)", x.sign(7, 31), -1);
        C.due("sign(31, 3)", x.sign(31, 3), 1);
        C.due("sign(31, 31)", x.sign(31, 31), -1);
        for (int k : new int[] {6, -1, 32, LEAST, MOST}) {
            C.refused(x, "table(0, " + k + ")", x.table(0, k), -1, 1);
        }
        for (int k : new int[] {0, 1, 2, 5, 9, 13, 15, 17, 27, 29, 35, 43, 47, 59, -1, LEAST, MOST}) {
            C.refused(x, "table(1, " + k + ")", x.table(1, k), -1, 1);
        }
        C.refused(x, "table(2, 3)", x.table(2, 3), -1, 1);
        C.refused(x, "table(-1, 3)", x.table(-1, 3), -1, 1);
        C.due("count(5)", x.count(5), 32);
        for (int p : new int[] {3, 7, 11, 19, 23, 31}) {
            C.taken(x, "table(1, " + p + ")", x.table(1, p), p + 1);
        }
        x.table(1, 7);
        int[] second = {1, -1, 1, 1, -1, 1, -1, -1};
        int[] fourth = {1, 1, -1, -1, 1, 1, -1, 1};
        for (int j = 0; j < 8; j++) {
            C.due("sign(0, " + j + ")", x.sign(0, j), 1);
            C.due("sign(1, " + j + ")", x.sign(1, j), second[j]);
        }
        C.due("sign(2, 1)", x.sign(2, 1), -1);
        C.due("sign(4, 1)", x.sign(4, 1), fourth[1]);
        C.due("sign(4, 4)", x.sign(4, 4), -1);
    }

    private static void twice() {
        HoleMask x = new HoleMask();
        C.refused(x, "twice()", x.twice(), -1, 2);
        x.table(1, 3);
        x.swap(1, 3);
        int[][] old = new int[4][4];
        for (int i = 0; i < 16; i++) {
            old[i / 4][i % 4] = x.sign(i / 4, i % 4);
        }
        C.taken(x, "twice()", x.twice(), 8);
        for (int i = 0; i < 64; i++) {
            int want = old[i / 8 % 4][i % 8 % 4] * (i / 8 >= 4 && i % 8 >= 4 ? -1 : 1);
            C.due("sign(" + i / 8 + ", " + i % 8 + ")", x.sign(i / 8, i % 8), want);
        }
        x.twice();
        C.taken(x, "twice()", x.twice(), 32);
        C.refused(x, "twice()", x.twice(), -1, 3);
        C.due("count(5)", x.count(5), 32);
        x.table(1, 11);
        C.taken(x, "twice()", x.twice(), 24);
        C.refused(x, "twice()", x.twice(), -1, 3);
        x.table(0, 0);
        C.taken(x, "twice()", x.twice(), 2);
        C.due("sign(1, 1)", x.sign(1, 1), -1);
    }

    private static void swap() {
        HoleMask x = new HoleMask();
        C.refused(x, "swap(-1, 9)", x.swap(-1, 9), 2);
        x.table(0, 1);
        C.taken(x, "swap(0, 1)", x.swap(0, 1));
        C.due("sign(0, 1)", x.sign(0, 1), -1);
        C.due("sign(1, 1)", x.sign(1, 1), 1);
        C.taken(x, "swap(1, 1)", x.swap(1, 1));
        C.due("sign(1, 0)", x.sign(1, 0), -1);
        C.due("sign(1, 1)", x.sign(1, 1), -1);
        C.due("sign(0, 0)", x.sign(0, 0), 1);
        C.refused(x, "swap(2, 0)", x.swap(2, 0), 1);
        C.refused(x, "swap(0, 2)", x.swap(0, 2), 1);
        C.refused(x, "swap(2, 2)", x.swap(2, 2), 1);
        C.refused(x, "swap(-1, -1)", x.swap(-1, -1), 1);
        x.table(0, 5);
        x.swap(31, 31);
        C.due("sign(31, 0)", x.sign(31, 0), -1);
        C.due("sign(31, 31)", x.sign(31, 31), 1);
        C.due("product(31, 31)", x.product(31, 31), 32);
        C.due("product(31, 30)", x.product(31, 30), 0);
        x.table(0, 0);
        x.swap(0, 0);
        C.due("sign(0, 0)", x.sign(0, 0), -1);
        C.due("twice()", x.twice(), 2);
        C.due("sign(1, 1)", x.sign(1, 1), 1);
        C.due("sign(1, 0)", x.sign(1, 0), -1);
    }

    private static void sign() {
        HoleMask x = new HoleMask();
        C.taken(x, "sign(0, 0)", x.sign(0, 0), 0);
        x.table(0, 1);
        C.taken(x, "sign(0, 0)", x.sign(0, 0), 1);
        C.taken(x, "sign(1, 1)", x.sign(1, 1), -1);
        C.taken(x, "sign(2, 0)", x.sign(2, 0), 0);
        C.taken(x, "sign(0, 2)", x.sign(0, 2), 0);
        C.taken(x, "sign(-1, 0)", x.sign(-1, 0), 0);
        C.taken(x, "sign(0, LEAST)", x.sign(0, LEAST), 0);
    }

    private static void product() {
        HoleMask x = new HoleMask();
        C.refused(x, "product(0, 0)", x.product(0, 0), 0, 2);
        C.refused(x, "product(-1, 0)", x.product(-1, 0), 0, 2);
        x.table(0, 2);
        C.taken(x, "product(3, 3)", x.product(3, 3), 4);
        C.taken(x, "product(3, 0)", x.product(3, 0), 0);
        C.refused(x, "product(4, 0)", x.product(4, 0), 0, 1);
        C.refused(x, "product(0, 4)", x.product(0, 4), 0, 1);
        C.refused(x, "product(0, -1)", x.product(0, -1), 0, 1);
    }

    private static void look() {
        HoleMask x = new HoleMask();
        C.refused(x, "look(-1)", x.look(-1), 0, 2);
        x.ring(6);
        fill(x, 1, 1, 10, 100, 1000, -1000, 7);
        x.table(0, 2);
        C.taken(x, "look(0)", x.look(0), 1111);
        C.taken(x, "look(1)", x.look(1), 1 - 10 + 100 - 1000);
        C.taken(x, "look(2)", x.look(2), 1 + 10 - 100 - 1000);
        C.refused(x, "look(4)", x.look(4), 0, 1);
        C.refused(x, "look(-1)", x.look(-1), 0, 1);
        x.table(0, 3);
        C.taken(x, "look(4)", x.look(4), 1111 + 1000 - 7);
        x.ring(2);
        fill(x, 1, 4, 5);
        C.taken(x, "look(7)", x.look(7), -1);
    }

    private static void fault() {
        HoleMask x = new HoleMask();
        x.ring(0);
        C.due("fault()", x.fault(), 1);
        C.due("fault() again", x.fault(), 1);
        C.noSuch(x, 0, 9);
        C.due("fault() after at()", x.fault(), 1);
        x.ring(3);
        C.due("fault()", x.fault(), 0);
        for (int call = 0; call < 7; call++) {
            x.twice();
            C.due("fault()", x.fault(), 2);
            fine(x, call);
            C.due("fault() after call " + call, x.fault(), 0);
        }
    }

    /** All that goes over whole rows, on a ring of 60, where each row is full to its last place. */
    private static void widestRing() {
        HoleMask x = new HoleMask();
        x.ring(60);
        for (int what = 0; what < 3; what++) {
            C.taken(x, "sheet(2, 60)", x.sheet(2, 60), 60);
            x.entry(0, 1);
            C.taken(x, "entry(59, 1)", x.entry(59, 1));
            C.taken(x, "lay(" + what + ")", x.lay(what));
            C.due("at(" + what + ", 59)", x.at(what, 59), 1);
        }
        x.sheet(2, 60);
        x.entry(0, 2);
        C.refused(x, "lay(0), 2 at 0", x.lay(0), 1);
        x.entry(0, 0);
        x.entry(59, 2);
        C.refused(x, "lay(0), 2 at 59", x.lay(0), 1);
        C.taken(x, "turn(1)", x.turn(1));
        C.due("at(0, 58)", x.at(0, 58), 1);
        C.taken(x, "meets(1)", x.meets(1), 1);
        C.taken(x, "meets(59)", x.meets(59), 1);
        C.taken(x, "off()", x.off(), 2);
        C.taken(x, "shadow(0)", x.shadow(0), 1);
        C.taken(x, "shadow(1)", x.shadow(1), 2);
        C.taken(x, "cast()", x.cast());
        C.due("at(2, 2)", x.at(2, 2), 1);
        C.taken(x, "points(0)", x.points(0), 1);
        C.taken(x, "fold(4, 15, 3, 14)", x.fold(4, 15, 3, 14), 1);
        C.taken(x, "fold(15, 4, 13, 2)", x.fold(15, 4, 13, 2), 1);
        x.miss(59);
        C.taken(x, "count(3)", x.count(3), 1);
        C.taken(x, "anti()", x.anti());
        C.taken(x, "count(1)", x.count(1), 58);
        C.refused(x, "sure()", x.sure(), -1, 1);
        x.table(0, 5);
        C.taken(x, "look(31)", x.look(31), 1);
    }

    /** The 512th call still answers, though all those ahead of it were the dearest there are. */
    private static void wholeLife() {
        HoleMask x = new HoleMask();
        x.ring(60);
        for (int call = 2; call < 512; call++) {
            C.due("points(1000) as call " + call, x.points(1000), 143911);
        }
        C.due("count(7) as call 512", x.count(7), 143911);
    }

    /** Calls that are never refused, whatever they answer. */
    private static void fine(HoleMask x, int call) {
        switch (call) {
            case 0: x.off(); break;
            case 1: x.cast(); break;
            case 2: x.turn(1); break;
            case 3: x.point(-1, 9); break;
            case 4: x.sign(-1, 9); break;
            case 5: x.undo(); break;
            default: x.lost(); break;
        }
    }
}
