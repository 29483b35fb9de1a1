/** Sentence by sentence, the edges of promises 20 to 28: shadows undone, and points. */
public final class EdgeUndoTest {
    private static final String RICH = EdgeRingTest.RICH;
    private static final String WIDE = EdgeRingTest.WIDE;
    /** One place more than shadows are undone for. */
    private static final String FIFTEEN = "ring(15) set(0,0,1) set(1,14,3) set(2,14,5) points(5) table(0,1) sheet(0,2) ";
    /** A mask that can not be undone, with all else. */
    private static final String LOSING = "mask(1,-1,0) fill(1,7,-8,9) fill(2,5,1,-6) points(3) table(0,1) sheet(1,5) entry(0,1) ";
    private static final Edges E = new Edges();

    public static void main(String[] args) {
        undo();
        backAt();
        backGone();
        backStays();
        noise();
        rank();
        lost();
        solve();
        solveRefused();
        sure();
        pointsMiss();
        pointsFound();
        pointsOrder();
        point();
        E.finish(20, 28);
    }

    private static void undo() {
        E.edge(20, "n 14 is the most", "ring(14) set(0,13,1) undo()=1 backs()=0,1,0,0,0,0,0,0,0,0,0,0,0,0");
        E.still(20, "n above 14: 15", FIFTEEN, "undo()=-1!1");
        E.still(20, "n above 14: 60", WIDE, "undo()=-1!1");
        E.still(20, "n above 14, a mask that can not be undone", "ring(15)", "undo()=-1!1");
        E.edge(20, "one place, 1 and -1", "mask(1) undo()=1 back(0)=1 mask(-1) undo()=1 back(0)=-1");
        E.edge(20, "one place, 0", "undo()=0 back(0)=0!2");
        E.still(20, "can not be undone: 0, not refused", LOSING, "undo()=0");
        E.edge(20, "can not be undone: no holes", "ring(14) undo()=0 back(0)=0!2");
        E.edge(20, "can not be undone: all holes", "ring(14) all(0,1) undo()=0 back(13)=0!2");
        E.edge(20, "can not be undone: but by one step", "mask(1,1,0,0) undo()=0 mask(1,1,0,1) undo()=3");
        E.edge(20, "D above 0, b may be below", "mask(-1,-1,0) undo()=2 backs()=-1,1,-1");
        E.edge(20, "D above 0, where places change", "mask(0,1) undo()=1 backs()=0,1");
        E.edge(20, "no common divisor of all", "mask(1,1,1,-1) undo()=4 backs()=1,-1,1,1");
        E.edge(20, "b goes round", "mask(0,1,0,0) undo()=1 backs()=0,0,0,1 mask(0,0,-1) undo()=1 backs()=0,-1,0");
        E.edge(20, "told again", "mask(1,1,0) undo()=2 backs()=1,-1,1 undo()=2 backs()=1,-1,1");
        E.edge(20, "told anew of another mask", "mask(1,1,0) undo()=2 set(0,2,-1) undo()=2 backs()=1,0,1");
        E.edge(20, "ring, scene, readings, table and sheet stay",
            RICH + "undo()=2 row(0)=1,1,0 row(1)=7,-8,9 at(2,0)=5 at(2,1)=throws at(2,2)=4 count(5)=4 count(6)=5 count(7)=45");
    }

    private static void backAt() {
        E.edge(21, "j 0 and j n - 1", "mask(1,0,1,1) undo()=3 back(0)=1 back(1)=1 back(2)=1 back(3)=-2");
        E.edge(21, "j 13 of 14", "ring(14) set(0,1,-1) undo()=1 back(13)=-1 back(12)=0 back(0)=0");
        E.edge(21, "j 0 of one place", "mask(1) undo() back(0)=1 back(1)=0!1 back(-1)=0!1");
        E.edge(21, "no j of a longer back ahead of it", "mask(1,0,1,1) undo()=3 mask(1,1,0) undo()=2 backs()=1,-1,1 back(3)=0!1");
        E.eachStill(21, "no such j", RICH, "back(-1)=0!1", "back(3)=0!1", "back(13)=0!1", "back(14)=0!1",
            "back(MIN)=0!1", "back(MAX)=0!1");
        E.eachStill(21, "no such j of 14", "ring(14) set(0,0,1) undo()", "back(14)=0!1", "back(-1)=0!1", "back(15)=0!1");
        E.eachStill(21, "no back", "mask(1,1,0)", "back(0)=0!2", "back(2)=0!2");
        E.eachStill(21, "no back of a mask that can not be undone", LOSING + "undo()", "back(0)=0!2", "back(2)=0!2");
        E.eachStill(21, "no back where undo() was refused", FIFTEEN + "undo()", "back(0)=0!2", "back(14)=0!2");
        E.eachStill(21, "no such j and no back, the least", "mask(1,1,0)", "back(3)=0!1", "back(-1)=0!1", "back(MAX)=0!1");
        E.eachStill(21, "no such j and no back of 15", FIFTEEN, "back(15)=0!1", "back(-1)=0!1");
        E.eachStill(21, "changes nothing", RICH, "back(0)=1", "back(1)=-1", "back(2)=1");
    }

    private static void backGone() {
        String[] calls = {"ring(3)", "lay(0)", "set(0,0,1)", "turn(0)", "anti()", "rests(3)", "twins(3)", "shift(2)"};
        for (String call : calls) {
            E.edge(21, "gone by " + call, RICH + "back(0)=1 " + call + " back(0)=0!2");
            E.edge(22, "gone by " + call, RICH + "noise(0)=3 " + call + " noise(0)=0!2 noise(1)=0!2");
        }
        E.edge(21, "not told by solve()", "mask(1,1,0) solve()=1 back(0)=0!2");
        E.edge(21, "not told by rank(), lost() and sure()", "mask(1,1,0) rank()=3 lost()=-1 sure()=1 back(0)=0!2");
        E.edge(21, "gone by set(), not told again by solve()", "mask(1,1,0) undo() set(0,0,1) solve()=1 back(0)=0!2");
    }

    private static void backStays() {
        String[] calls = {"ring(0)", "ring(61)", "sheet(0,4)", "sheet(0,61)", "entry(0,9)", "lay(1)", "lay(2)", "lay(3)",
            "set(1,0,1)", "set(2,0,1)", "set(0,0,2)", "set(0,3,1)", "miss(0)", "cast()", "cast() solve()", "solve()",
            "rests(4)", "twins(7)", "shift(6)", "undo()", "rank()", "lost()", "sure()", "points(1000)", "points(-1)",
            "table(0,5)", "twice()", "swap(0,0)", "off()", "count(4)", "fold(1,3,0,0)", "back(3)", "noise(2)", "at(2,1)"};
        for (String call : calls) {
            E.edge(21, "stays by " + call, RICH + call + " backs()=1,-1,1 noise(0)=3 noise(1)=4");
        }
        E.edge(21, "stays by a refused anti()", "mask(1,1,-1) undo()=2 anti()=false!1 backs()=1,0,1");
        E.edge(21, "stays by a refused lay(0)", RICH + "entry(2,2) lay(0)=false!1 backs()=1,-1,1");
    }

    private static void noise() {
        E.edge(22, "what 0 above, what 1 below", "mask(1,1,0) undo() noise(0)=3 noise(1)=4");
        E.edge(22, "in lowest terms", "mask(1,1,1,-1) undo() noise(0)=1 noise(1)=4 rests(7) undo()=6 noise(0)=4 noise(1)=9");
        E.edge(22, "a whole number", "mask(-1) undo() noise(0)=1 noise(1)=1 ring(14) set(0,13,-1) undo() noise(0)=1 noise(1)=1");
        E.edge(22, "nothing of a longer back ahead of it", "mask(1,0,1,1) undo()=3 mask(1,1,0) undo()=2 noise(0)=3 noise(1)=4");
        E.eachStill(22, "another what", RICH, "noise(-1)=0!1", "noise(2)=0!1", "noise(MIN)=0!1", "noise(MAX)=0!1");
        E.eachStill(22, "no back", "mask(1,1,0)", "noise(0)=0!2", "noise(1)=0!2");
        E.eachStill(22, "no back of a mask that can not be undone", LOSING + "undo()", "noise(0)=0!2", "noise(1)=0!2");
        E.eachStill(22, "no back of 15 places", FIFTEEN + "undo()", "noise(0)=0!2", "noise(1)=0!2");
        E.eachStill(22, "another what and no back, the least", "mask(1,1,0)", "noise(-1)=0!1", "noise(2)=0!1");
        E.eachStill(22, "changes nothing", RICH, "noise(0)=3", "noise(1)=4");
    }

    private static void rank() {
        E.edge(23, "0 of no holes", "rank()=0 ring(14) rank()=0");
        E.edge(23, "1 of all holes", "ring(14) all(0,1) rank()=1 ring(2) all(0,-1) rank()=1");
        E.edge(23, "n - 1", "ring(14) set(0,0,1) set(0,1,1) rank()=13");
        E.edge(23, "n 14 is the most", "ring(14) set(0,13,1) rank()=14");
        E.edge(23, "one place", "mask(1) rank()=1 mask(-1) rank()=1");
        E.edge(23, "between", "mask(1,0,0,-1,0,0) rank()=3 mask(1,0,1,0) rank()=2");
        E.still(23, "n above 14: 15", FIFTEEN, "rank()=-1!1");
        E.still(23, "n above 14: 60", WIDE, "rank()=-1!1");
        E.still(23, "changes nothing", RICH, "rank()=3");
        E.still(23, "changes nothing, where something is lost", LOSING, "rank()=2");
    }

    private static void lost() {
        E.still(24, "can be undone: NONE, not refused", RICH, "lost()=-1");
        E.still(24, "can be undone: NONE of 14", "ring(14) set(0,0,1) set(1,13,4) miss(2)", "lost()=-1");
        E.still(24, "n above 14: 15", FIFTEEN, "lost()=-1!1");
        E.still(24, "n above 14: 60", WIDE, "lost()=-1!1");
        E.still(24, "n above 14, no holes", "ring(15) set(1,14,3)", "lost()=-1!1");
        E.edge(24, "no holes: the least place is 0", "ring(3) fill(1,7,8,9) lost()=0 row(1)=1,0,0");
        E.edge(24, "one place without a hole", "lost()=0 row(1)=1 shadow(0)=0");
        E.edge(24, "n 14, the last place is the least that can be", "ring(14) set(0,0,1) set(0,1,1) all(1,9) lost()=13 "
            + "row(1)=-1,1,-1,1,-1,1,-1,1,-1,1,-1,1,-1,1");
        E.edge(24, "n 14, all holes", "ring(14) all(0,1) all(1,9) lost()=1 row(1)=-1,1,0,0,0,0,0,0,0,0,0,0,0,0");
        E.edge(24, "above 0 there, though the mask is below", "mask(-1,-1) fill(1,5,5) lost()=1 row(1)=-1,1");
        E.edge(24, "the others above 0 too", LOSING + "lost()=2 row(1)=1,1,1 shadow(0)=0 shadow(1)=0 shadow(2)=0");
        E.edge(24, "no common divisor, beyond it 0", "mask(1,0,0,-1,0,0) all(1,8) lost()=3 row(1)=1,0,0,1,0,0");
        E.edge(24, "numbers above 1", "mask(0,1,0,0,-1,0,1,0,-1,1,0,-1) all(1,4) lost()=7 row(1)=1,1,2,2,2,2,1,1,0,0,0,0 "
            + "mask(-1,0,1,1,0,-1,1,1,1,1,1,1) lost()=9 row(1)=-1,2,-2,1,0,0,-1,2,-2,1,0,0");
        E.edge(24, "the readings stay, a missing one too", LOSING + "miss(1) lost()=2 at(2,0)=5 at(2,1)=throws at(2,2)=-6");
        E.edge(24, "mask, table, sheet and points stay", LOSING + "lost()=2 row(0)=1,-1,0 count(5)=2 count(6)=5 count(7)=37");
    }

    private static void solve() {
        E.edge(25, "1000 is taken", "mask(1) fill(2,1000) solve()=1 row(1)=1000");
        E.edge(25, "-1000 is taken", "mask(1) fill(2,-1000) solve()=1 row(1)=-1000");
        E.eachStill(25, "1001 is no scene", "mask(1) fill(1,4) fill(2,1001)", "solve()=-2");
        E.eachStill(25, "-1001 is no scene", "mask(1) fill(1,4) fill(2,-1001)", "solve()=-2");
        E.eachStill(25, "the greatest reading is no scene", "mask(1) fill(1,4) fill(2,1000000)", "solve()=-2");
        E.eachStill(25, "the least reading is no scene", "mask(-1) fill(1,4) fill(2,1000000)", "solve()=-2");
        E.still(25, "no scene at the last place alone", "mask(1,0) fill(1,3,4) fill(2,5,1001)", "solve()=-2");
        E.still(25, "no scene at the first place alone", "mask(1,0) fill(1,3,4) fill(2,-1001,5)", "solve()=-2");
        E.still(25, "halves are no scene", "mask(1,1,0) fill(1,3,4,5) fill(2,1,0,0) undo()", "solve()=-2");
        E.still(25, "halves below 0 are no scene", "mask(1,1,0) fill(1,3,4,5) fill(2,-1,0,0)", "solve()=-2");
        E.edge(25, "1000 and -1000 beside one another",
            "mask(1,1,0) fill(2,0,-997,1003) solve()=1 row(1)=1000,-1000,3");
        E.still(25, "can not be undone: 0, not refused", LOSING, "solve()=0");
        E.still(25, "can not be undone, though a scene would do", "mask(1,1) fill(1,1,2) cast()", "solve()=0");
        E.still(25, "can not be undone, though no whole scene would do", "mask(1,1) fill(1,1,2) fill(2,1000000,0)", "solve()=0");
        E.edge(25, "no holes: 0", "solve()=0 ring(14) solve()=0");
        E.edge(25, "the round", "mask(0,1,0) fill(2,1,2,3) solve()=1 row(1)=3,1,2");
        E.edge(25, "n 14 is the most", "ring(14) set(0,13,1) set(2,0,5) set(2,1,6) solve()=1 at(1,13)=5 at(1,0)=6 at(1,1)=0");
        E.edge(25, "mask, readings, back and the rest stay",
            RICH + "cast() solve()=1 row(0)=1,1,0 row(1)=7,-8,9 row(2)=-1,1,16 backs()=1,-1,1 count(5)=4 count(6)=5 count(7)=45");
        E.edge(25, "a whole row of readings", "mask(1,1,0) fill(2,3,5,4) solve()=1 row(1)=1,2,3");
    }

    private static void solveRefused() {
        E.still(25, "n above 14: 15", FIFTEEN, "solve()=-1!1");
        E.still(25, "n above 14: 60, and one missing", WIDE, "solve()=-1!1");
        E.still(25, "one missing, between", RICH, "solve()=-1!1");
        E.still(25, "one missing at the first place", "mask(1,1,0) fill(1,1,2,3) miss(0)", "solve()=-1!1");
        E.still(25, "one missing at the last place", "mask(1,1,0) fill(1,1,2,3) miss(2)", "solve()=-1!1");
        E.still(25, "one missing at the last place of 14", "ring(14) set(0,0,1) set(1,13,5) miss(13)", "solve()=-1!1");
        E.still(25, "all missing", "mask(1,1,0) fill(1,1,2,3) miss(0) miss(1) miss(2)", "solve()=-1!1");
        E.still(25, "one missing, and a mask that can not be undone", LOSING + "miss(0)", "solve()=-1!1");
    }

    private static void sure() {
        E.edge(26, "1 of all readings", "mask(1,1,0) sure()=1 mask(1) sure()=1");
        E.edge(26, "0 of a mask that can not be undone", "sure()=0 mask(1,-1) sure()=0 ring(14) all(0,1) sure()=0");
        E.edge(26, "0, the first reading is missing", "mask(1,1,0) miss(0) sure()=0 set(2,0,0) sure()=1");
        E.edge(26, "0, the last reading is missing", "mask(1,1,0) miss(2) sure()=0 cast() sure()=1");
        E.edge(26, "0, all are missing", "mask(1) miss(0) sure()=0");
        E.edge(26, "n 14 is the most", "ring(14) set(0,13,1) sure()=1 miss(13) sure()=0");
        E.still(26, "n above 14: 15", FIFTEEN, "sure()=-1!1");
        E.still(26, "n above 14: 60", WIDE, "sure()=-1!1");
        E.still(26, "n above 14, one missing", FIFTEEN + "miss(0)", "sure()=-1!1");
        E.still(26, "changes nothing, not sure", RICH, "sure()=0");
        E.still(26, "changes nothing, sure", RICH + "set(2,1,4)", "sure()=1");
        E.still(26, "changes nothing, where something is lost", LOSING, "sure()=0");
    }

    private static void pointsMiss() {
        E.eachStill(27, "another miss", RICH, "points(-1)=-1!1", "points(1001)=-1!1", "points(MIN)=-1!1", "points(MAX)=-1!1");
        E.eachStill(27, "another miss on a wide ring", WIDE, "points(-1)=-1!1", "points(1001)=-1!1");
        E.eachStill(27, "another miss ahead of any", "mask(1,0)", "points(-1)=-1!1", "points(1001)=-1!1");
        E.edge(27, "miss 0 is the least", "mask(1) fill(2,5) points(0)=1 told(0)=0,5,-1,0");
        E.edge(27, "off by the miss, not by more", "mask(1) fill(2,5) points(1)=3 told(0)=0,4,-1,0 told(2)=0,6,-1,0");
        E.edge(27, "no point by one more than the miss", "mask(1) fill(2,5) points(4)=9 told(0)=0,1,-1,0 points(5)=10 told(0)=-1,0,-1,0");
        E.edge(27, "miss 1000 is the most", "mask(1) fill(2,1000) points(1000)=10 points(999)=9 told(0)=0,1,-1,0");
        E.edge(27, "1001 off no point", "mask(1) fill(2,1001) points(1000)=9 told(0)=0,1,-1,0");
        E.edge(27, "1000 off the greatest height", "mask(1) fill(2,1009) points(1000)=1 told(0)=0,9,-1,0");
        E.edge(27, "1001 off the greatest height", "mask(1) fill(2,1010) points(1000)=0");
        E.edge(27, "1000 and 1001 below", "mask(1) fill(2,-1000) points(1000)=1 told(0)=-1,0,-1,0 set(2,0,-1001) points(1000)=0");
        E.edge(27, "less ones, 1000 off", "mask(-1) fill(2,-1009) points(1000)=1 told(0)=0,9,-1,0 set(2,0,-1010) points(1000)=0");
        E.edge(27, "the outermost readings", "mask(1) fill(2,1000000) points(1000)=0 set(2,0,-1000000) points(1000)=0");
        E.edge(27, "the outermost readings under less ones", "mask(-1) fill(2,1000000) points(1000)=0 set(2,0,-1000000) points(1000)=0");
        E.edge(27, "one reading that is off is enough", "ring(60) set(2,59,1) points(0)=0 set(2,59,0) set(2,0,-1) points(0)=0");
    }

    private static void pointsFound() {
        E.edge(27, "height 1 is the least", "mask(1) fill(2,1) points(0)=1 told(0)=0,1,-1,0");
        E.edge(27, "height 0 is no point", "mask(1) points(0)=1 told(0)=-1,0,-1,0");
        E.edge(27, "height 9 is the most", "mask(1) fill(2,9) points(0)=1 told(0)=0,9,-1,0");
        E.edge(27, "no height 10", "mask(1) fill(2,10) points(0)=0 point(0,0)=-1");
        E.edge(27, "no height below 0", "mask(1) fill(2,-1) points(0)=0");
        E.edge(27, "height 9 under a less one", "mask(-1) fill(2,-9) points(0)=1 told(0)=0,9,-1,0 set(2,0,-10) points(0)=0");
        E.edge(27, "two points' heights together, 18 and not 19", "mask(1,1) fill(2,18,18) points(0)=1 told(0)=0,9,1,9 "
            + "fill(2,19,19) points(0)=0");
        E.edge(27, "the second less the first, -8 and 8", "mask(1,-1) fill(2,8,-8) points(0)=2 told(0)=0,8,-1,0 "
            + "told(1)=0,9,1,1 fill(2,-8,8) points(0)=2 told(0)=1,8,-1,0 told(1)=0,1,1,9");
        E.edge(27, "at most two points", "mask(1,0,0) fill(2,1,1,1) points(0)=0 fill(2,1,1,0) points(0)=1");
        E.edge(27, "the first and the last place", "ring(60) set(0,0,1) set(2,0,3) set(2,59,9) points(0)=1 told(0)=0,3,59,9");
        E.edge(27, "the last two places", "ring(60) set(0,0,1) set(2,58,9) set(2,59,1) points(0)=1 told(0)=58,9,59,1");
        E.edge(27, "a point at the last place", "ring(60) set(0,0,1) set(2,59,1) points(0)=1 told(0)=59,1,-1,0");
        E.edge(27, "the shadow goes round", "mask(0,1,0) fill(2,4,0,0) points(0)=1 told(0)=1,4,-1,0 fill(2,0,0,5) points(0)=1 told(0)=0,5,-1,0");
        E.edge(27, "a missing reading does not count", "mask(1,0) fill(2,5,1000000) miss(1) points(0)=10 told(0)=0,5,-1,0 told(1)=0,5,1,1");
        E.edge(27, "all readings missing", "ring(2) all(0,1) fill(2,999999,-3) miss(0) miss(1) points(0)=100");
        E.edge(27, "one place has no second point", "miss(0) points(0)=10 told(0)=-1,0,-1,0 told(9)=0,9,-1,0 point(10,0)=-1");
        E.edge(27, "what was told is gone", "points(0)=10 set(0,0,1) set(2,0,5) points(0)=1 told(0)=0,5,-1,0 point(1,0)=-1 count(7)=1");
        E.edge(27, "what was told is gone, none found", "points(0)=10 set(2,0,5) points(0)=0 point(0,0)=-1 count(7)=0");
        E.edge(27, "ring, back, table and sheet stay",
            RICH + "points(1000)=271 row(0)=1,1,0 row(1)=7,-8,9 at(2,0)=5 at(2,1)=throws at(2,2)=4 backs()=1,-1,1 count(5)=4 count(6)=5");
    }

    private static void pointsOrder() {
        String all = "ring(3) points(0)=271 ";
        E.edge(27, "none is the first", all + "told(0)=-1,0,-1,0");
        E.edge(27, "one point, by its place, then height", all + "told(1)=0,1,-1,0 told(9)=0,9,-1,0 told(10)=1,1,-1,0 told(27)=2,9,-1,0");
        E.edge(27, "two points behind all with one", all + "told(28)=0,1,1,1");
        E.edge(27, "two points, the second one's height goes ahead", all + "told(36)=0,1,1,9");
        E.edge(27, "then the second one's place", all + "told(37)=0,1,2,1 told(45)=0,1,2,9");
        E.edge(27, "then the first one's height", all + "told(46)=0,2,1,1 told(189)=0,9,2,9");
        E.edge(27, "then the first one's place", all + "told(190)=1,1,2,1");
        E.edge(27, "the first 200 of 271", all + "told(199)=1,2,2,1 point(200,0)=-1 point(200,1)=-1 point(200,3)=-1 count(7)=271");
        E.edge(27, "200 are all told", "mask(1,0,0) fill(2,4,4,3) points(4)=200 told(199)=1,8,2,7 point(200,0)=-1");
        E.edge(27, "the first 200 of 214", "mask(1,0,0) miss(0) miss(1) points(6)=214 told(0)=-1,0,-1,0 told(199)=1,7,2,4 point(200,0)=-1");
        E.edge(27, "all of 60 places", "ring(60) points(1000)=143911 told(198)=21,9,-1,0 told(199)=22,1,-1,0 point(200,0)=-1");
    }

    private static void point() {
        E.edge(28, "ahead of any points()", "point(0,0)=-1 point(0,1)=-1 point(0,2)=-1 point(0,3)=-1");
        E.edge(28, "no point at all: NONE and 0", "points(0) point(0,0)=-1 point(0,1)=0 point(0,2)=-1 point(0,3)=0");
        E.edge(28, "no second point: NONE and 0", "points(0) point(1,0)=0 point(1,1)=1 point(1,2)=-1 point(1,3)=0");
        E.edge(28, "the last that was told", "points(0)=10 point(9,1)=9 point(10,0)=-1 point(10,1)=-1 point(10,3)=-1");
        E.edge(28, "the 200th is the last", "ring(60) points(1000) point(199,1)=1 point(200,1)=-1 point(201,1)=-1");
        E.eachStill(28, "none such, not refused", RICH, "point(-1,1)=-1", "point(45,1)=-1", "point(45,0)=-1",
            "point(200,1)=-1", "point(MIN,1)=-1", "point(MAX,1)=-1");
        E.eachStill(28, "another what, not refused", RICH, "point(0,-1)=-1", "point(0,4)=-1", "point(0,MIN)=-1",
            "point(0,MAX)=-1", "point(44,4)=-1", "point(1,-1)=-1");
        E.eachStill(28, "neither such", RICH, "point(-1,-1)=-1", "point(MAX,MAX)=-1", "point(MIN,MIN)=-1", "point(45,4)=-1",
            "point(1073741824,0)=-1", "point(536870912,1)=-1");
        E.eachStill(28, "changes nothing", RICH, "point(0,0)=0", "point(0,1)=2", "point(44,2)=2", "point(44,3)=1");
        E.edge(28, "still told on another ring", RICH + "ring(1) told(44)=1,3,2,1");
        E.edge(28, "still told after a refused points()", RICH + "points(1001)=-1!1 told(44)=1,3,2,1 point(45,0)=-1");
        E.edge(28, "still told where mask and readings have changed", RICH + "anti() cast() told(44)=1,3,2,1");
        E.edge(28, "the fault of a call ahead is gone", "twice()=-1!2 point(0,0)=-1");
    }
}
