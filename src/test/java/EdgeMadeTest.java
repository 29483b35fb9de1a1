import java.util.List;

/** Sentence by sentence, the edges of promises 17 to 19: masks that are made. */
public final class EdgeMadeTest {
    private static final String RICH = EdgeRingTest.RICH;
    private static final String WIDE = EdgeRingTest.WIDE;
    private static final List<Integer> REST_PRIMES = List.of(3, 7, 11, 19, 23, 31, 43, 47, 59);
    private static final Edges E = new Edges();

    public static void main(String[] args) {
        rests();
        twins();
        shift();
        newRing("rests(3)=1", 17);
        newRing("twins(3)=7", 18);
        newRing("shift(2)=3", 19);
        E.finish(17, 19);
    }

    private static void rests() {
        E.edge(17, "p 3 is the least", "rests(3)=1 count(0)=3 row(0)=0,1,0");
        E.edge(17, "p 59 is the greatest", "rests(59)=29 count(0)=59 at(0,0)=0 at(0,1)=1 at(0,58)=0 count(1)=29 count(4)=1");
        E.edge(17, "squares that go round p", "rests(7)=3 row(0)=0,1,1,0,1,0,0 rests(11)=5 row(0)=0,1,0,1,1,1,0,0,0,1,0");
        for (int p = -20; p <= 75; p++) {
            if (REST_PRIMES.contains(p)) {
                E.edge(17, "taken: " + p, "rests(" + p + ")=" + (p - 1) / 2 + " count(0)=" + p + " count(1)=" + (p - 1) / 2);
            } else {
                E.still(17, "refused: " + p, RICH, "rests(" + p + ")=-1!1");
            }
        }
        E.eachStill(17, "far too small or too large", RICH, "rests(MIN)=-1!1", "rests(MAX)=-1!1", "rests(-2147483645)=-1!1",
            "rests(103)=-1!1", "rests(1000003)=-1!1");
        E.eachStill(17, "refused on a wide ring", WIDE, "rests(61)=-1!1", "rests(2)=-1!1");
    }

    private static void twins() {
        E.edge(18, "p 3 is the least", "twins(3)=7 count(0)=15 row(0)=1,1,1,0,1,1,0,0,1,0,1,0,0,0,0");
        E.edge(18, "p 5 is the greatest", "twins(5)=17 count(0)=35 count(1)=17 count(4)=1");
        E.edge(18, "holes at those that p + 2 divides, 0 too", "twins(5) at(0,0)=1 at(0,7)=1 at(0,14)=1 at(0,21)=1 at(0,28)=1");
        E.edge(18, "no holes at those that p alone divides", "twins(5) at(0,5)=0 at(0,10)=0 at(0,15)=0 at(0,20)=0 at(0,25)=0 at(0,30)=0");
        // By 5 the squares are 1, 4, by 7 they are 1, 2, 4.
        E.edge(18, "squares by both", "twins(5) at(0,1)=1 at(0,29)=1 at(0,4)=1");
        E.edge(18, "squares by none", "twins(5) at(0,3)=1 at(0,12)=1 at(0,33)=1");
        E.edge(18, "squares by one of them", "twins(5) at(0,2)=0 at(0,6)=0 at(0,34)=0");
        for (int p = -20; p <= 75; p++) {
            if (p != 3 && p != 5) {
                E.still(18, "refused: " + p, RICH, "twins(" + p + ")=-1!1");
            }
        }
        E.eachStill(18, "far too small or too large", RICH, "twins(MIN)=-1!1", "twins(MAX)=-1!1", "twins(46341)=-1!1",
            "twins(65534)=-1!1", "twins(65536)=-1!1", "twins(-65536)=-1!1", "twins(2147483646)=-1!1");
        E.eachStill(18, "refused on a wide ring", WIDE, "twins(7)=-1!1", "twins(2)=-1!1");
    }

    private static void shift() {
        E.edge(19, "r 2 is the least", "shift(2)=3 count(0)=3 row(0)=0,1,1");
        E.edge(19, "r 3", "shift(3)=3 count(0)=7 row(0)=0,0,1,0,1,1,1");
        E.edge(19, "r 4", "shift(4)=3 count(0)=15 row(0)=0,0,0,1,0,0,1,1,0,1,0,1,1,1,1");
        E.edge(19, "r 5 is the greatest", "shift(5)=5 count(0)=31 "
            + "row(0)=0,0,0,0,1,0,0,1,0,1,1,0,0,1,1,1,1,1,0,0,0,1,1,0,1,1,1,0,1,0,1");
        E.eachStill(19, "another r", RICH, "shift(1)=-1!1", "shift(6)=-1!1", "shift(0)=-1!1", "shift(-1)=-1!1",
            "shift(34)=-1!1", "shift(37)=-1!1", "shift(-30)=-1!1", "shift(MIN)=-1!1", "shift(MAX)=-1!1");
        E.eachStill(19, "another r on a wide ring", WIDE, "shift(1)=-1!1", "shift(6)=-1!1");
    }

    private static void newRing(String made, int promise) {
        E.edge(promise, "scene and readings as at first, none missing",
            RICH + made + " row(1)=0,0,0 row(2)=0,0,0 count(3)=0");
        E.edge(promise, "as at first where there were places long ago",
            WIDE + "miss(58) all(0,-1) " + made + " count(2)=0 ring(60) at(0,59)=0 at(1,59)=0 at(2,59)=0 at(2,58)=0");
        E.edge(promise, "no back", RICH + made + " back(0)=0!2 noise(0)=0!2 noise(1)=0!2");
        E.edge(promise, "table, sheet and points stay",
            RICH + made + " count(5)=4 signs(1)=1,-1,-1,1 count(6)=5 count(7)=45 told(44)=1,3,2,1 lay(1) row(1)=1,-1,0");
        E.edge(promise, "the same again", made + " " + made);
    }
}
