import java.util.List;

/** Sentence by sentence, the edges of promises 29 to 35: tables, and the fault. */
public final class EdgeTableTest {
    private static final String RICH = EdgeRingTest.RICH;
    private static final String NO_TABLE = "mask(1,1,0) fill(1,7,-8,9) undo() miss(1) sheet(1,5) entry(0,1) points(1000) ";
    /** The largest table, with a row turned. */
    private static final String LARGE = "mask(1,1,0) fill(1,7,-8,9) undo() sheet(1,5) table(0,5) swap(31,31) swap(0,30) ";
    private static final List<Integer> PRIMES = List.of(3, 7, 11, 19, 23, 31);
    private static final Edges E = new Edges();

    public static void main(String[] args) {
        tableTaken();
        tableNumbers();
        tableSquare();
        twice();
        swap();
        sign();
        product();
        look();
        fault();
        faultOfEach();
        E.finish(29, 35);
    }

    private static void tableTaken() {
        for (int k = -20; k <= 75; k++) {
            String doubled = "table(0," + k + ")=";
            if (k >= 0 && k <= 5) {
                E.edge(29, "doubled, taken: " + k, RICH + doubled + (1 << k) + " count(5)=" + (1 << k));
            } else {
                E.still(29, "doubled, refused: " + k, RICH, doubled + "-1!1");
            }
            String byRests = "table(1," + k + ")=";
            if (PRIMES.contains(k)) {
                E.edge(29, "by rests, taken: " + k, RICH + byRests + (k + 1) + " count(5)=" + (k + 1));
            } else {
                E.still(29, "by rests, refused: " + k, RICH, byRests + "-1!1");
            }
        }
        E.eachStill(29, "far too small or too large", RICH, "table(0,MIN)=-1!1", "table(0,MAX)=-1!1", "table(1,MIN)=-1!1",
            "table(1,MAX)=-1!1", "table(1,-2147483645)=-1!1");
        E.eachStill(29, "another kind", RICH, "table(-1,3)=-1!1", "table(2,3)=-1!1", "table(MIN,3)=-1!1", "table(MAX,3)=-1!1",
            "table(2,0)=-1!1");
        E.eachStill(29, "refused, and there is no table", NO_TABLE, "table(0,6)=-1!1", "table(0,-1)=-1!1", "table(1,5)=-1!1",
            "table(2,3)=-1!1");
        E.eachStill(29, "refused, and the largest stays", LARGE, "table(0,6)=-1!1", "table(1,43)=-1!1");
        E.edge(29, "ring, back, sheet and points stay", RICH + "table(0,5)=32 row(0)=1,1,0 row(1)=7,-8,9 at(2,1)=throws "
            + "backs()=1,-1,1 count(6)=5 count(7)=45");
    }

    private static void tableNumbers() {
        E.edge(29, "doubled 0 times", "table(0,0)=1 sign(0,0)=1 sign(0,1)=0 sign(1,0)=0");
        E.edge(29, "doubled once", "table(0,1)=2 signs(0)=1,1 signs(1)=1,-1 sign(2,0)=0");
        E.edge(29, "doubled 5 times, the outermost", "table(0,5)=32 sign(0,0)=1 sign(0,31)=1 sign(31,0)=1 sign(31,31)=-1 "
            + "sign(30,31)=1 sign(31,30)=1 sign(16,16)=-1 sign(16,15)=1 sign(32,0)=0 sign(0,32)=0");
        E.edge(29, "by rests of 3", "table(1,3)=4 signs(0)=1,1,1,1 signs(1)=1,-1,1,-1 signs(2)=1,-1,-1,1 signs(3)=1,1,-1,-1");
        E.edge(29, "by rests of 7, differences below 0 go round", "table(1,7)=8 signs(1)=1,-1,1,1,-1,1,-1,-1 "
            + "signs(4)=1,1,-1,-1,-1,1,1,-1 signs(7)=1,1,1,-1,1,-1,-1,-1");
        E.edge(29, "by rests of 31, the outermost", "table(1,31)=32 sign(0,0)=1 sign(0,31)=1 sign(31,0)=1 sign(31,31)=-1 "
            + "sign(1,1)=-1 sign(1,31)=-1 sign(31,1)=1 sign(1,2)=1 sign(2,1)=-1");
        E.edge(29, "a smaller one in place of a larger one", "table(0,5) table(0,1)=2 count(5)=2 signs(1)=1,-1 sign(2,0)=0 sign(0,2)=0");
        E.edge(29, "a larger one in place of a turned one", "table(0,1) swap(1,1) table(0,2)=4 signs(1)=1,-1,1,-1 signs(3)=1,-1,-1,1");
        E.edge(29, "row 0 that became its contrary is as at first", "table(0,1) swap(0,0) table(0,2)=4 signs(0)=1,1,1,1 "
            + "swap(0,0) table(1,3)=4 signs(0)=1,1,1,1 swap(0,0) table(0,0)=1 sign(0,0)=1");
        E.edge(29, "the same again undoes a turn", RICH + "table(1,3)=4 signs(1)=1,-1,1,-1 signs(2)=1,-1,-1,1");
    }

    private static void tableSquare() {
        for (int k = 0; k <= 5; k++) {
            square(29, "table(0," + k + ") ", 1 << k);
        }
        for (int p : PRIMES) {
            square(29, "table(1," + p + ") ", p + 1);
        }
        square(30, "table(1,3) twice() twice() twice() ", 32);
        square(30, "table(1,11) twice() ", 24);
        square(31, "table(1,23) swap(0,23) swap(5,5) ", 24);
    }

    /** Each row with each; a new object for each row, since one is good for 512 calls. */
    private static void square(int promise, String made, int size) {
        for (int a = 0; a < size; a++) {
            StringBuilder text = new StringBuilder(made);
            for (int b = 0; b < size; b++) {
                text.append("product(" + a + "," + b + ")=" + (a == b ? size : 0) + " ");
            }
            E.edge(promise, made + "is square, row " + a, text.toString());
        }
    }

    private static void twice() {
        E.still(30, "no table", NO_TABLE, "twice()=-1!2");
        E.still(30, "no table on a new object", "", "twice()=-1!2");
        E.edge(30, "16 is the most that is doubled", "table(0,4) twice()=32 count(5)=32 sign(31,31)=-1 sign(15,31)=1 sign(31,15)=1 sign(16,16)=-1");
        E.still(30, "20 would be too many", "table(1,19) swap(1,1)", "twice()=-1!3");
        E.still(30, "24 would be too many", "table(1,23)", "twice()=-1!3");
        E.still(30, "24 that were doubled", "table(1,11) twice()", "twice()=-1!3");
        E.still(30, "32 would be too many", LARGE, "twice()=-1!3");
        E.still(30, "32 that were doubled", "table(0,0) twice() twice() twice() twice() twice()", "twice()=-1!3");
        E.edge(30, "1 becomes 2", "table(0,0) twice()=2 signs(0)=1,1 signs(1)=1,-1");
        E.edge(30, "a turned 1 becomes 2", "table(0,0) swap(0,0) twice()=2 signs(0)=-1,-1 signs(1)=-1,1 sign(2,2)=0");
        E.edge(30, "12 becomes 24", "table(1,11) twice()=24 sign(0,12)=1 sign(12,0)=1 sign(12,12)=-1 sign(11,23)=-1 sign(23,23)=1 sign(24,24)=0");
        E.edge(30, "of i % N, j % N, the contrary where both are N or more",
            RICH + "twice()=8 signs(1)=1,-1,-1,1,1,-1,-1,1 signs(5)=1,-1,-1,1,-1,1,1,-1 signs(4)=1,1,1,1,-1,-1,-1,-1");
        E.edge(30, "the last row before the new ones and the first new one",
            "table(0,1) twice()=4 signs(1)=1,-1,1,-1 signs(2)=1,1,-1,-1");
        E.edge(30, "of a table in place of a larger one", "table(1,31) swap(0,0) swap(1,1) table(0,1) twice()=4 signs(0)=1,1,1,1 "
            + "signs(1)=1,-1,1,-1 signs(2)=1,1,-1,-1 signs(3)=1,-1,-1,1");
        E.edge(30, "ring, back, sheet and points stay", RICH + "twice()=8 row(0)=1,1,0 row(1)=7,-8,9 backs()=1,-1,1 count(6)=5 count(7)=45");
    }

    private static void swap() {
        E.edge(31, "the first row and the last", "table(0,1) swap(0,1)=true signs(0)=1,-1 signs(1)=1,1");
        E.edge(31, "the last row and the first", "table(0,1) swap(1,0)=true signs(0)=1,-1 signs(1)=1,1");
        E.edge(31, "rows 0 and 31", "table(0,5) swap(0,31)=true sign(0,31)=-1 sign(31,31)=1 sign(0,1)=-1 sign(31,1)=1 sign(30,1)=1");
        E.edge(31, "a = b, the first row becomes its contrary", "table(0,1) swap(0,0)=true signs(0)=-1,-1 signs(1)=1,-1");
        E.edge(31, "a = b, the last row of 32", "table(0,5) swap(31,31)=true sign(31,0)=-1 sign(31,31)=1 sign(30,0)=1 sign(0,31)=1");
        E.edge(31, "a = b, a table of one row", "table(0,0) swap(0,0)=true sign(0,0)=-1 swap(0,0)=true sign(0,0)=1");
        E.edge(31, "a = b twice is as it was", "table(1,3) swap(2,2)=true signs(2)=-1,1,1,-1 swap(2,2)=true signs(2)=1,-1,-1,1");
        E.edge(31, "twice is as it was", "table(1,3) swap(1,3)=true swap(1,3)=true signs(1)=1,-1,1,-1 signs(3)=1,1,-1,-1");
        E.eachStill(31, "no table, asked ahead", NO_TABLE, "swap(0,0)=false!2", "swap(-1,0)=false!2", "swap(0,-1)=false!2",
            "swap(32,32)=false!2", "swap(MIN,MAX)=false!2");
        E.eachStill(31, "no such row", RICH, "swap(-1,0)=false!1", "swap(0,-1)=false!1", "swap(4,0)=false!1",
            "swap(0,4)=false!1", "swap(3,4)=false!1", "swap(MIN,0)=false!1", "swap(0,MAX)=false!1");
        E.eachStill(31, "no such row, a = b", RICH, "swap(-1,-1)=false!1", "swap(4,4)=false!1", "swap(31,31)=false!1",
            "swap(MIN,MIN)=false!1", "swap(MAX,MAX)=false!1");
        E.eachStill(31, "no such row of 32", LARGE, "swap(32,0)=false!1", "swap(0,32)=false!1", "swap(32,32)=false!1");
        E.eachStill(31, "no such row of one", "table(0,0)", "swap(1,1)=false!1", "swap(0,1)=false!1", "swap(1,0)=false!1");
        E.edge(31, "ring, back, sheet and points stay", RICH + "swap(0,3)=true row(0)=1,1,0 row(1)=7,-8,9 backs()=1,-1,1 count(6)=5 count(7)=45");
    }

    private static void sign() {
        E.edge(32, "the first and the last of 4", RICH + "sign(0,0)=1 sign(3,3)=-1 sign(0,3)=1 sign(3,0)=1");
        E.eachStill(32, "none such, not refused", RICH, "sign(-1,0)=0", "sign(0,-1)=0", "sign(4,0)=0", "sign(0,4)=0",
            "sign(4,4)=0", "sign(31,0)=0", "sign(0,31)=0", "sign(32,0)=0", "sign(0,32)=0", "sign(0,MIN)=0", "sign(MIN,0)=0",
            "sign(0,MAX)=0", "sign(MAX,0)=0");
        E.eachStill(32, "none such of 32", LARGE, "sign(32,0)=0", "sign(0,32)=0", "sign(-1,31)=0", "sign(31,-1)=0");
        E.eachStill(32, "no table, not refused", NO_TABLE, "sign(0,0)=0", "sign(1,1)=0", "sign(-1,0)=0");
        E.eachStill(32, "changes nothing", RICH, "sign(1,1)=-1", "sign(1,3)=1");
        E.edge(32, "the fault of a call ahead is gone", "twice()=-1!2 sign(0,0)=0");
    }

    private static void product() {
        E.edge(33, "a row with itself", "table(0,0) product(0,0)=1 table(0,5) product(31,31)=32 product(0,0)=32");
        E.edge(33, "the first row with the last", "table(0,5) product(0,31)=0 product(31,0)=0 table(1,3) product(0,3)=0 product(3,0)=0");
        E.edge(33, "a row that became its contrary", "table(0,5) swap(31,31) product(31,31)=32 product(31,0)=0");
        E.edge(33, "of a table in place of a larger one", "table(1,31) swap(0,0) swap(1,1) table(0,1) product(0,1)=0 product(1,1)=2");
        E.eachStill(33, "no table, asked ahead", NO_TABLE, "product(0,0)=0!2", "product(-1,0)=0!2", "product(0,32)=0!2",
            "product(MIN,MAX)=0!2");
        E.eachStill(33, "no such row", RICH, "product(-1,0)=0!1", "product(0,-1)=0!1", "product(4,0)=0!1", "product(0,4)=0!1",
            "product(4,4)=0!1", "product(MIN,0)=0!1", "product(0,MAX)=0!1");
        E.eachStill(33, "no such row of 32", LARGE, "product(32,0)=0!1", "product(0,32)=0!1", "product(32,32)=0!1");
        E.eachStill(33, "changes nothing", RICH, "product(0,0)=4", "product(1,2)=0");
    }

    private static void look() {
        E.edge(34, "places from N on count nothing", "ring(3) fill(1,1,10,100) table(0,1) look(0)=11 look(1)=-9");
        E.edge(34, "as many places as N", "ring(4) fill(1,1,10,100,1000) table(0,2) look(0)=1111 look(3)=891");
        E.edge(34, "beyond n nothing counts", "ring(2) fill(1,4,5) table(0,5) look(0)=9 look(31)=-1 look(1)=-1 look(2)=9");
        E.edge(34, "beyond n nothing counts, though it held numbers once", "ring(60) all(1,1000) ring(1) table(0,5) look(0)=0 set(1,0,7) look(31)=7");
        E.edge(34, "a table of one row", "ring(2) fill(1,-6,5) table(0,0) look(0)=-6 look(1)=0!1");
        E.edge(34, "the first row and the last", RICH + "look(0)=8 look(3)=-10");
        E.edge(34, "the greatest and the least", "ring(60) all(1,1000) table(0,5) look(0)=32000 swap(0,0) look(0)=-32000 look(31)=0");
        E.edge(34, "the 32nd place counts, the 33rd does not", "ring(60) set(1,31,5) set(1,32,7) table(0,5) look(0)=5 look(31)=-5");
        E.eachStill(34, "no table, asked ahead", NO_TABLE, "look(0)=0!2", "look(-1)=0!2", "look(32)=0!2", "look(MIN)=0!2", "look(MAX)=0!2");
        E.eachStill(34, "no such row", RICH, "look(-1)=0!1", "look(4)=0!1", "look(31)=0!1", "look(32)=0!1", "look(MIN)=0!1", "look(MAX)=0!1");
        E.eachStill(34, "no such row of 32", LARGE, "look(32)=0!1", "look(-1)=0!1");
        E.eachStill(34, "changes nothing", RICH, "look(0)=8", "look(1)=6");
    }

    private static void fault() {
        E.edge(35, "0 of a new object", "fault()=0 fault()=0");
        E.edge(35, "1, and it stays by fault()", "ring(0) fault()=1 fault()=1");
        E.edge(35, "2, and it stays by fault()", "twice() fault()=2 fault()=2");
        E.edge(35, "3, and it stays by fault()", "table(0,5) twice() fault()=3 fault()=3");
        E.edge(35, "4, and it stays by fault()", "sheet(0,-1) fault()=4 fault()=4");
        E.edge(35, "stays by at() that throws", "sheet(0,-1) at(0,1)=throws at(9,0)=throws fault()=4");
        E.edge(35, "stays by at() that answers", "sheet(0,-1) at(0,0)=0 fault()=4");
        E.edge(35, "0 stays by at() that throws", "miss(0) at(2,0)=throws fault()=0");
        E.edge(35, "of the latest call alone", "twice() fault()=2 ring(0) fault()=1 sheet(0,-1) fault()=4 ring(1) fault()=0");
        E.still(35, "changes nothing", RICH + "ring(0)", "fault()=1");
    }

    /** After a refused call, each call that is not refused leaves no fault. */
    private static void faultOfEach() {
        String[] calls = {"ring(3)", "sheet(2,5)", "sheet(3,-1)", "entry(0,1)", "lay(1)", "set(1,0,0)", "miss(0)", "count(0)",
            "count(5)", "shadow(0)", "cast()", "meets(0)", "off()", "turn(1)", "anti()", "fold(1,3,0,0)", "rests(7)", "twins(3)",
            "shift(3)", "undo()", "back(0)", "noise(0)", "rank()", "lost()", "sure()", "points(0)", "point(0,0)", "point(-1,9)",
            "table(0,1)", "twice()", "swap(0,1)", "sign(0,0)", "sign(-1,9)", "product(0,0)", "look(0)"};
        for (String call : calls) {
            E.edge(35, "0 after " + call, RICH + "sheet(0,-1) fault()=4 " + call + " fault()=0");
        }
        E.edge(35, "0 after a mask that can not be undone", "ring(0) undo() fault()=0 ring(0) solve() fault()=0 ring(0) lost() fault()=0");
        E.edge(35, "0 after solve() that answers 1 and -2",
            "mask(1) ring(0) solve() fault()=0 fill(2,1001) ring(0) solve()=-2 fault()=0");
        E.edge(35, "0 after NONE that is not refused", "ring(0) off()=-1 fault()=0 ring(0) count(5)=-1 fault()=0 ring(0) count(6)=-1 fault()=0");
    }
}
