/** Sentence by sentence, the edges of promises 1 to 16: the ring, its rows and the sheet. */
public final class EdgeRingTest {
    /** All that an object can hold is there, and a reading is missing. */
    static final String RICH = "mask(1,1,0) fill(1,7,-8,9) fill(2,5,1,4) points(3) miss(1) undo() "
        + "table(1,3) swap(1,2) sheet(1,5) entry(0,1) entry(1,-1) entry(4,300) ";
    /** The same on the widest ring, but for what needs a small one. */
    static final String WIDE = "ring(60) set(0,0,1) set(0,59,1) set(1,59,1000) set(2,59,-7) miss(0) "
        + "points(1000) table(0,2) sheet(2,60) entry(59,9) ";
    private static final Edges E = new Edges();

    public static void main(String[] args) {
        newObject();
        ring();
        sheet();
        sheetInPlace();
        entry();
        entryBits();
        layLimits();
        layLengths();
        layRefused();
        layBack();
        setLimits();
        set();
        miss();
        at();
        countRing();
        countRest();
        shadow();
        cast();
        meets();
        off();
        turn();
        anti();
        fold();
        E.finish(1, 16);
    }

    private static void newObject() {
        E.edge(1, "one place", "count(0)=1 at(0,0)=0 at(1,0)=0 at(2,0)=0");
        E.edge(1, "no second place", "at(0,1)=throws at(1,1)=throws at(2,1)=throws shadow(1)=0!1");
        E.edge(1, "no place ahead of 0", "at(0,-1)=throws at(1,-1)=throws at(2,-1)=throws");
        E.edge(1, "no sheet", "count(6)=-1 entry(0,0)=false!2 lay(0)=false!2 lay(1)=false!2 lay(2)=false!2");
        E.edge(1, "no back", "back(0)=0!2 noise(0)=0!2 noise(1)=0!2");
        E.edge(1, "no table", "count(5)=-1 twice()=-1!2 swap(0,0)=false!2 product(0,0)=0!2 look(0)=0!2");
        E.edge(1, "no holes, no stops of -1, nothing missing", "count(1)=0 count(2)=0 count(3)=0");
        E.edge(1, "no fault", "fault()=0");
        E.edge(1, "no points told", "count(7)=0 point(0,0)=-1");
    }

    private static void ring() {
        E.edge(2, "n 1 is the least", RICH + "ring(1)=true count(0)=1 row(0)=0 at(0,1)=throws");
        E.edge(2, "n 60 is the most", RICH + "ring(60)=true count(0)=60 set(1,59,5)=true at(1,59)=5 "
            + "at(1,60)=throws set(1,60,5)=false!1");
        E.eachStill(2, "another n", RICH, "ring(0)=false!1", "ring(61)=false!1", "ring(-1)=false!1",
            "ring(MIN)=false!1", "ring(MAX)=false!1");
        E.eachStill(2, "another n on a wide ring", WIDE, "ring(0)=false!1", "ring(61)=false!1");
        E.eachStill(2, "another n on a new object", "", "ring(0)=false!1", "ring(61)=false!1");
        E.edge(2, "all as at first on as many places",
            RICH + "ring(3)=true row(0)=0,0,0 row(1)=0,0,0 row(2)=0,0,0 count(3)=0");
        E.edge(2, "all as at first on fewer", RICH + "ring(2)=true row(0)=0,0 row(1)=0,0 row(2)=0,0 count(3)=0");
        E.edge(2, "all as at first where there were places long ago",
            WIDE + "miss(58) ring(1) ring(60)=true at(0,59)=0 at(1,59)=0 at(2,59)=0 at(2,58)=0 count(3)=0 count(1)=0");
        E.edge(2, "no back", RICH + "back(0)=1 ring(3)=true back(0)=0!2 noise(0)=0!2 noise(1)=0!2");
        E.edge(2, "table and points stay",
            RICH + "ring(3)=true count(5)=4 signs(1)=1,-1,-1,1 count(7)=45 told(0)=0,2,-1,0 told(44)=1,3,2,1");
        E.edge(2, "the sheet stays", RICH + "ring(5)=true count(6)=5 lay(1)=true row(1)=1,-1,0,0,300");
    }

    private static void sheet() {
        for (int kind = 0; kind < 3; kind++) {
            String of = "sheet(" + kind + ",";
            E.edge(3, "kind " + kind + ", m 0 is the least", of + "0)=0 count(6)=0 entry(0,1)=false!1");
            E.edge(3, "kind " + kind + ", m 60 is the most",
                of + "60)=60 count(6)=60 entry(59,1)=true entry(60,1)=false!1");
            E.eachStill(3, "m above 60", RICH, of + "61)=-1!1", of + "MAX)=-1!1");
            E.eachStill(3, "m below 0", RICH, of + "-1)=-1!4", of + "MIN)=-1!4");
        }
        for (int m : new int[] {0, 60, 61, -1, Integer.MIN_VALUE, Integer.MAX_VALUE}) {
            E.edge(3, "a missing one, m doesn't matter: " + m, "sheet(3," + m + ")=0 count(6)=0");
        }
        E.eachStill(3, "another kind", RICH, "sheet(-1,3)=-1!1", "sheet(4,3)=-1!1", "sheet(MIN,3)=-1!1",
            "sheet(MAX,3)=-1!1");
        E.eachStill(3, "of several faults the least", RICH, "sheet(4,-1)=-1!1", "sheet(-1,-1)=-1!1",
            "sheet(4,61)=-1!1", "sheet(MAX,MIN)=-1!1");
        E.eachStill(3, "refused where there is no sheet", "ring(2)", "sheet(0,61)=-1!1", "sheet(0,-1)=-1!4",
            "sheet(4,0)=-1!1");
        E.eachStill(3, "refused where there is a missing one", "ring(2) sheet(3,0)", "sheet(0,61)=-1!1",
            "sheet(0,-1)=-1!4", "sheet(4,0)=-1!1");
    }

    private static void sheetInPlace() {
        E.edge(3, "all 0, as long as the one there was",
            "ring(3) sheet(2,3) entry(0,5) entry(2,6) sheet(2,3)=3 lay(1)=true row(1)=0,0,0");
        E.edge(3, "all 0, after a shorter one",
            "ring(60) sheet(2,60) entry(59,5) sheet(2,1)=1 sheet(2,60)=60 lay(1)=true at(1,59)=0");
        E.edge(3, "all 0, after one that was laid",
            "sheet(2,1) entry(0,5) lay(1) sheet(2,1)=1 lay(2)=true row(2)=0");
        E.edge(3, "a missing one in place of one with entries",
            "ring(2) sheet(0,2) entry(0,5) sheet(3,2)=0 count(6)=0 entry(0,1)=false!2 lay(1)=true row(1)=0,0");
        E.edge(3, "one with entries in place of a missing one",
            "sheet(3,0) sheet(1,1)=1 count(6)=1 entry(0,3)=true lay(1)=true row(1)=3");
        E.edge(3, "a shorter one in place of a longer one",
            "sheet(0,60) sheet(0,2)=2 count(6)=2 entry(1,0)=true entry(2,0)=false!1");
        E.edge(3, "of another kind", "sheet(0,1) sheet(2,1)=1 entry(0,300) lay(1)=true row(1)=300");
        E.edge(3, "no row and no back is changed",
            RICH + "sheet(0,60)=60 row(0)=1,1,0 row(1)=7,-8,9 at(2,0)=5 at(2,1)=throws at(2,2)=4 backs()=1,-1,1");
    }

    private static void entry() {
        E.edge(4, "the first entry of 60", "ring(60) sheet(0,60) entry(0,1)=true lay(1)=true row(1)=1,0");
        E.edge(4, "the last entry of 60",
            "ring(60) sheet(0,60) entry(59,2)=true lay(1)=true at(1,59)=2 at(1,58)=0 at(1,0)=0");
        E.edge(4, "the only entry", "sheet(2,1) entry(0,3)=true entry(0,4)=true lay(1)=true row(1)=4");
        E.eachStill(4, "no such entry of 5", RICH, "entry(-1,1)=false!1", "entry(5,1)=false!1",
            "entry(59,1)=false!1", "entry(60,1)=false!1", "entry(MIN,1)=false!1", "entry(MAX,1)=false!1");
        E.eachStill(4, "no such entry of 60", WIDE, "entry(-1,1)=false!1", "entry(60,1)=false!1");
        E.eachStill(4, "no such entry of none", "ring(2) sheet(0,0)", "entry(0,1)=false!1", "entry(-1,1)=false!1");
        E.eachStill(4, "no sheet, asked ahead", "ring(2) ", "entry(0,1)=false!2", "entry(-1,1)=false!2",
            "entry(60,1)=false!2", "entry(MIN,1)=false!2", "entry(MAX,1)=false!2");
        E.eachStill(4, "a missing one, asked ahead", "ring(2) sheet(3,5)", "entry(0,1)=false!2",
            "entry(-1,1)=false!2", "entry(5,1)=false!2", "entry(60,1)=false!2");
        E.edge(4, "no sheet once it was laid", "ring(2) sheet(0,2) lay(0)=true entry(0,1)=false!2");
        E.edge(4, "no back is gone", RICH + "entry(0,1)=true back(0)=1 row(0)=1,1,0");
    }

    private static void entryBits() {
        int[][] bytes = {{127, 127}, {128, -128}, {255, -1}, {256, 0}, {257, 1}, {-128, -128}, {-129, 127},
            {-1, -1}, {-256, 0}, {-257, -1}, {Integer.MAX_VALUE, -1}, {Integer.MIN_VALUE, 0}};
        int[][] shorts = {{32767, 32767}, {32768, -32768}, {65535, -1}, {65536, 0}, {-32768, -32768},
            {-32769, 32767}, {-1, -1}, {128, 128}, {-65537, -1}, {Integer.MAX_VALUE, -1}, {Integer.MIN_VALUE, 0}};
        int[][] ints = {{32768, 32768}, {65536, 65536}, {-32769, -32769}, {1000000, 1000000},
            {-1000000, -1000000}, {-1, -1}};
        int[][][] kinds = {bytes, shorts, ints};
        for (int kind = 0; kind < 3; kind++) {
            for (int[] pair : kinds[kind]) {
                E.edge(4, "kind " + kind + ", " + pair[0] + " becomes " + pair[1], "sheet(" + kind
                    + ",1) entry(0," + pair[0] + ")=true lay(2)=true row(2)=" + pair[1]);
            }
        }
        E.edge(4, "ints keep the greatest", "sheet(2,1) entry(0,MAX)=true lay(2)=false!1 entry(0,0) lay(2)=true");
        E.edge(4, "ints keep the least", "sheet(2,1) entry(0,MIN)=true lay(2)=false!1 entry(0,0) lay(2)=true");
    }

    private static void layLimits() {
        int[] limits = {1, 1000, 1000000};
        for (int what = 0; what < 3; what++) {
            int most = limits[what];
            String lay = "lay(" + what + ")";
            E.edge(5, lay + ", the least and the most that can be there", "ring(3) sheet(2,3) entry(0," + -most
                + ") entry(2," + most + ") " + lay + "=true row(" + what + ")=" + -most + ",0," + most);
            for (int bad : new int[] {most + 1, -most - 1, Integer.MAX_VALUE, Integer.MIN_VALUE}) {
                String number = lay + ", " + bad + " can't be there, at the ";
                E.still(5, number + "first place", RICH + "sheet(2,3) entry(0," + bad + ")", lay + "=false!1");
                E.still(5, number + "last place", RICH + "sheet(2,3) entry(2," + bad + ")", lay + "=false!1");
                E.edge(5, number + "first entry beyond n", "ring(3) sheet(2,4) entry(2,1) entry(3," + bad + ") "
                    + lay + "=true row(" + what + ")=0,0,1");
            }
            E.still(5, lay + ", at the last place of 60", WIDE + "entry(59," + (most + 1) + ")", lay + "=false!1");
        }
        E.still(5, "a byte that can't be in the mask", "mask(1,1,0) undo() sheet(0,3) entry(0,1) entry(1,-128)",
            "lay(0)=false!1");
        E.still(5, "a short that can't be in the scene", "mask(1,1,0) undo() sheet(1,3) entry(1,-32768)",
            "lay(1)=false!1");
        E.edge(5, "a refused sheet can be laid elsewhere",
            "ring(2) sheet(2,2) entry(1,1001) lay(1)=false!1 lay(2)=true row(2)=0,1001");
    }

    private static void layLengths() {
        for (int what = 0; what < 3; what++) {
            String lay = "ring(3) all(" + what + ",1) ";
            String rest = "lay(" + what + ")=true row(" + what + ")=";
            String named = "lay(" + what + "), ";
            E.edge(5, named + "more entries than places", lay + "sheet(0,5) entry(2,-1) entry(3,1) " + rest + "0,0,-1");
            E.edge(5, named + "as many entries as places", lay + "sheet(0,3) entry(2,-1) " + rest + "0,0,-1");
            E.edge(5, named + "fewer entries: what it has not is 0", lay + "sheet(0,1) entry(0,-1) " + rest + "-1,0,0");
            E.edge(5, named + "no entries: all 0", lay + "sheet(1,0) " + rest + "0,0,0");
            E.edge(5, named + "a missing sheet: all 0", lay + "sheet(3,3) " + rest + "0,0,0");
            E.edge(5, named + "one place", "sheet(0,60) entry(0,1) entry(1,9) " + rest + "1 at(" + what + ",1)=throws");
            E.edge(5, named + "60 places", "ring(60) sheet(0,60) entry(0,1) entry(59,-1) lay(" + what
                + ")=true at(" + what + ",0)=1 at(" + what + ",59)=-1 at(" + what + ",1)=0");
            E.edge(5, named + "there is no sheet then", "ring(3) sheet(0,3) lay(" + what
                + ")=true count(6)=-1 lay(" + what + ")=false!2 entry(0,0)=false!2");
            E.edge(5, named + "there is no missing sheet then", "ring(3) sheet(3,0) lay(" + what
                + ")=true count(6)=-1 lay(" + what + ")=false!2");
        }
        E.edge(5, "readings, none missing then",
            "ring(3) miss(0) miss(1) miss(2) sheet(2,3) entry(0,4) lay(2)=true count(3)=0 row(2)=4,0,0");
        E.edge(5, "readings, none missing beyond the sheet's end",
            "ring(3) miss(0) miss(2) sheet(2,1) entry(0,4) lay(2)=true count(3)=0 row(2)=4,0,0");
        E.edge(5, "readings, none missing by a missing sheet",
            "ring(3) miss(0) miss(2) sheet(3,1) lay(2)=true count(3)=0 row(2)=0,0,0");
        E.edge(5, "mask and scene leave what is missing",
            "ring(2) miss(1) sheet(3,0) lay(0)=true sheet(3,0) lay(1)=true count(3)=1 at(2,1)=throws");
    }

    private static void layRefused() {
        E.eachStill(5, "another what", RICH, "lay(-1)=false!1", "lay(3)=false!1", "lay(MIN)=false!1",
            "lay(MAX)=false!1");
        E.eachStill(5, "no sheet", "mask(1,1,0) fill(1,7,8,9) fill(2,4,5,6) undo() miss(1)", "lay(0)=false!2",
            "lay(1)=false!2", "lay(2)=false!2");
        E.eachStill(5, "another what and no sheet, the least", "mask(1,1,0) undo()", "lay(-1)=false!1",
            "lay(3)=false!1");
        E.eachStill(5, "another what and a missing sheet", "ring(2) sheet(3,0)", "lay(-1)=false!1", "lay(3)=false!1");
    }

    private static void layBack() {
        E.edge(5, "back is gone, if the mask is laid", RICH + "lay(0)=true back(0)=0!2 noise(0)=0!2");
        E.edge(5, "back is gone, if the same mask is laid",
            "mask(1,1,0) undo() sheet(0,2) entry(0,1) entry(1,1) lay(0)=true row(0)=1,1,0 back(0)=0!2");
        E.edge(5, "back is gone by a missing sheet", "mask(1,1,0) undo() sheet(3,2) lay(0)=true back(0)=0!2");
        E.edge(5, "back stays, if the scene is laid", RICH + "lay(1)=true backs()=1,-1,1 noise(1)=4");
        E.edge(5, "back stays, if readings are laid", RICH + "lay(2)=true backs()=1,-1,1 noise(1)=4");
    }

    private static void setLimits() {
        int[] limits = {1, 1000, 1000000};
        for (int what = 0; what < 3; what++) {
            int most = limits[what];
            String set = "set(" + what + ",";
            E.edge(6, set + "..) takes " + most, "ring(3) " + set + "0," + most + ")=true at(" + what + ",0)=" + most);
            E.edge(6, set + "..) takes " + -most, "ring(3) " + set + "2," + -most + ")=true at(" + what + ",2)=" + -most);
            E.edge(6, set + "..) takes 0 again", RICH + set + "0,0)=true at(" + what + ",0)=0");
            E.eachStill(6, "no such number", RICH, set + "0," + (most + 1) + ")=false!1",
                set + "0," + (-most - 1) + ")=false!1", set + "2,MIN)=false!1", set + "2,MAX)=false!1");
            E.eachStill(6, "no such place", RICH, set + "-1,0)=false!1", set + "3,0)=false!1",
                set + "59,0)=false!1", set + "60,0)=false!1", set + "MIN,0)=false!1", set + "MAX,0)=false!1");
            E.eachStill(6, "no such place of 60", WIDE, set + "60,0)=false!1", set + "-1,0)=false!1");
            E.eachStill(6, "no such place of one", "", set + "1,0)=false!1", set + "-1,0)=false!1");
            E.edge(6, set + "..), one number at the first place", "ring(60) " + set + "0,1)=true at(" + what
                + ",0)=1 at(" + what + ",1)=0 at(" + what + ",59)=0");
            E.edge(6, set + "..), one number at the last place", "ring(60) " + set + "59,1)=true at(" + what
                + ",59)=1 at(" + what + ",58)=0 at(" + what + ",0)=0");
        }
    }

    private static void set() {
        E.eachStill(6, "another what", RICH, "set(-1,0,0)=false!1", "set(3,0,0)=false!1", "set(MIN,0,0)=false!1",
            "set(MAX,0,0)=false!1", "set(3,9,2000000)=false!1");
        E.edge(6, "a reading is not missing then", "ring(2) miss(1) set(2,1,0)=true count(3)=0 at(2,1)=0");
        E.edge(6, "other readings stay missing", "ring(3) miss(0) miss(2) set(2,0,3)=true count(3)=1 at(2,2)=throws");
        E.edge(6, "another row's number leaves a reading missing",
            "ring(2) miss(1) set(0,1,1)=true set(1,1,5)=true count(3)=1 at(2,1)=throws");
        E.edge(6, "a refused reading stays missing", "ring(2) miss(1) set(2,1,1000001)=false!1 at(2,1)=throws");
        E.edge(6, "back is gone, if it is of the mask", RICH + "set(0,2,1)=true back(0)=0!2 noise(0)=0!2");
        E.edge(6, "back is gone by the number that was there", RICH + "set(0,0,1)=true row(0)=1,1,0 back(0)=0!2");
        E.edge(6, "back stays, if it is of the scene", RICH + "set(1,0,1)=true backs()=1,-1,1");
        E.edge(6, "back stays, if it is of the readings", RICH + "set(2,0,1)=true backs()=1,-1,1");
    }

    private static void miss() {
        E.edge(7, "the first place", "ring(60) miss(0)=true at(2,0)=throws at(2,59)=0 at(2,1)=0 count(3)=1");
        E.edge(7, "the last place", "ring(60) miss(59)=true at(2,59)=throws at(2,58)=0 at(2,0)=0 count(3)=1");
        E.edge(7, "the only place", "miss(0)=true at(2,0)=throws count(3)=1");
        E.eachStill(7, "no such place", RICH, "miss(-1)=false!1", "miss(3)=false!1", "miss(59)=false!1",
            "miss(60)=false!1", "miss(MIN)=false!1", "miss(MAX)=false!1");
        E.eachStill(7, "no such place of 60", WIDE, "miss(60)=false!1", "miss(-1)=false!1");
        E.eachStill(7, "no such place of one", "", "miss(1)=false!1", "miss(-1)=false!1");
        E.still(7, "missing already", RICH, "miss(1)=true");
        E.edge(7, "all missing", "ring(3) miss(0)=true miss(1)=true miss(2)=true count(3)=3");
        E.edge(7, "a number that was set is missing", "ring(2) set(2,1,5) miss(1)=true at(2,1)=throws");
        E.edge(7, "mask, scene and back stay", RICH + "miss(0)=true row(0)=1,1,0 row(1)=7,-8,9 backs()=1,-1,1");
    }

    private static void at() {
        E.edge(8, "what was set at the first place", RICH + "at(0,0)=1 at(1,0)=7 at(2,0)=5");
        E.edge(8, "what was set at the last place", RICH + "at(0,2)=0 at(1,2)=9 at(2,2)=4");
        E.edge(8, "the last place of 60", WIDE + "at(0,59)=1 at(1,59)=1000 at(2,59)=-7");
        E.eachStill(8, "another what", RICH, "at(-1,0)=throws", "at(3,0)=throws", "at(MIN,0)=throws", "at(MAX,0)=throws");
        for (int what = 0; what < 3; what++) {
            String at = "at(" + what + ",";
            E.eachStill(8, "no such place", RICH, at + "-1)=throws", at + "3)=throws", at + "59)=throws",
                at + "60)=throws", at + "MIN)=throws", at + "MAX)=throws");
            E.eachStill(8, "no such place of 60", WIDE, at + "60)=throws", at + "-1)=throws");
        }
        E.still(8, "a reading that is missing", RICH, "at(2,1)=throws");
        E.edge(8, "mask and scene where a reading is missing", RICH + "at(0,1)=1 at(1,1)=-8");
        E.edge(8, "no longer missing by set", RICH + "set(2,1,3) at(2,1)=3");
        E.edge(8, "no longer missing by cast", RICH + "cast() at(2,1)=1");
        E.edge(8, "no longer missing by lay", RICH + "lay(2) at(2,1)=-1");
        E.edge(8, "no longer missing by ring", RICH + "ring(3) at(2,1)=0");
        E.edge(8, "no longer missing by a mask that is made", RICH + "rests(3) at(2,1)=0");
        E.edge(8, "the fault stays, where it throws and where it answers",
            "ring(2) twice()=-1!2 at(0,2)=throws fault()=2 at(3,0)=throws at(0,0)=0 fault()=2");
        E.edge(8, "no fault, where it throws", "ring(2) count(0)=2 at(0,2)=throws fault()=0");
    }

    private static void countRing() {
        E.edge(9, "what 0: one place and 60", "count(0)=1 ring(60) count(0)=60");
        E.edge(9, "what 1: no holes", "ring(60) count(1)=0 all(0,-1) count(1)=0");
        E.edge(9, "what 1: all holes", "ring(60) all(0,1) count(1)=60");
        E.edge(9, "what 1: holes at the first and last place", "mask(1,0,-1,1) count(1)=2");
        E.edge(9, "what 2: no less ones", "ring(60) count(2)=0 all(0,1) count(2)=0");
        E.edge(9, "what 2: all less ones", "ring(60) all(0,-1) count(2)=60");
        E.edge(9, "what 2: less ones at the first and last place", "mask(-1,0,1,-1) count(2)=2");
        E.edge(9, "what 3: none missing", "ring(60) count(3)=0");
        E.edge(9, "what 3: the first and the last missing", "ring(60) miss(0) miss(59) count(3)=2");
        E.edge(9, "what 3: all missing", "ring(2) miss(0) miss(1) count(3)=2");
        E.edge(9, "what 4: one place is round", "count(4)=1 set(0,0,1) count(4)=1 set(0,0,-1) count(4)=1");
        E.edge(9, "what 4: two places are round", "mask(1,0) count(4)=1 set(0,1,-1) count(4)=1");
        E.edge(9, "what 4: three places are round", "mask(1,0,-1) count(4)=1");
        E.edge(9, "what 4: four places may be not", "mask(1,1,0,0) count(4)=0 set(0,2,1) count(4)=1");
        E.edge(9, "what 4: off at the last k that can be", "ring(60) count(4)=1 set(0,0,1) set(0,30,1) count(4)=0");
        E.edge(9, "what 4: all holes", "ring(60) all(0,1) count(4)=1");
    }

    private static void countRest() {
        E.edge(9, "what 5: NONE without a table, not refused", "count(5)=-1");
        E.edge(9, "what 5: the least table and the greatest", "table(0,0) count(5)=1 table(0,5) count(5)=32");
        E.edge(9, "what 5: a doubled table", "table(1,11) twice() count(5)=24");
        E.edge(9, "what 6: NONE without a sheet, not refused", "count(6)=-1");
        E.edge(9, "what 6: no entries", "sheet(0,0) count(6)=0");
        E.edge(9, "what 6: a missing one", "sheet(3,9) count(6)=0");
        E.edge(9, "what 6: 60 entries", "sheet(2,60) count(6)=60");
        E.edge(9, "what 6: NONE once it was laid", "sheet(2,60) lay(2) count(6)=-1");
        E.edge(9, "what 7: 0 ahead of any points()", "count(7)=0");
        E.edge(9, "what 7: none found", "set(2,0,5) points(0)=0 count(7)=0");
        E.edge(9, "what 7: none found after some", "points(0)=10 set(2,0,5) points(0)=0 count(7)=0");
        E.edge(9, "what 7: more than are told", "ring(60) points(1000)=143911 count(7)=143911");
        E.edge(9, "what 7: a refused points() is not counted", "points(0)=10 points(-1)=-1!1 count(7)=10");
        E.edge(9, "what 7: refused ahead of any", "points(1001)=-1!1 count(7)=0");
        E.edge(9, "what 7: after ring()", RICH + "ring(2) count(7)=45");
        E.eachStill(9, "another what", RICH, "count(-1)=-1!1", "count(8)=-1!1", "count(MIN)=-1!1", "count(MAX)=-1!1");
        E.eachStill(9, "changes nothing", RICH, "count(0)=3", "count(1)=2", "count(2)=0", "count(3)=1",
            "count(4)=1", "count(5)=4", "count(6)=5", "count(7)=45");
    }

    private static void shadow() {
        String four = "mask(1,-1,0,0) fill(1,10,3,-7,1000) ";
        E.edge(10, "the first place", four + "shadow(0)=7");
        E.edge(10, "the last place goes on at place 0", four + "shadow(3)=990");
        E.edge(10, "a hole at the last place", "ring(60) set(0,59,1) set(1,0,5) set(1,59,7) shadow(0)=7 shadow(1)=5 shadow(59)=0");
        E.edge(10, "one place", "mask(-1) fill(1,5) shadow(0)=-5");
        E.edge(10, "no holes", "ring(2) fill(1,5,6) shadow(0)=0 shadow(1)=0");
        E.edge(10, "the greatest", "ring(60) all(0,1) all(1,1000) shadow(0)=60000 shadow(59)=60000");
        E.edge(10, "the least", "ring(60) all(0,-1) all(1,1000) shadow(0)=-60000 shadow(59)=-60000");
        E.eachStill(10, "no such place", RICH, "shadow(-1)=0!1", "shadow(3)=0!1", "shadow(59)=0!1",
            "shadow(60)=0!1", "shadow(MIN)=0!1", "shadow(MAX)=0!1");
        E.eachStill(10, "no such place of 60", WIDE, "shadow(60)=0!1", "shadow(-1)=0!1");
        E.eachStill(10, "changes nothing", RICH, "shadow(0)=-1", "shadow(1)=1", "shadow(2)=16");
    }

    private static void cast() {
        E.edge(11, "all readings, a missing one too", RICH + "cast()=true row(2)=-1,1,16 count(3)=0");
        E.edge(11, "all were missing", "mask(1,0) fill(1,3,4) miss(0) miss(1) cast()=true row(2)=3,4 count(3)=0");
        E.edge(11, "the last place goes on at place 0", "mask(1,-1,0,0) fill(1,10,3,-7,1000) cast()=true row(2)=7,10,-1007,990");
        E.edge(11, "no holes", "ring(2) fill(1,5,6) fill(2,3,3) cast()=true row(2)=0,0");
        E.edge(11, "the greatest of 60", "ring(60) all(0,1) all(1,1000) cast()=true at(2,0)=60000 at(2,59)=60000");
        E.edge(11, "one place, new", "cast()=true row(2)=0");
        E.edge(11, "scene, mask, back, table and sheet stay",
            RICH + "cast()=true row(0)=1,1,0 row(1)=7,-8,9 backs()=1,-1,1 count(5)=4 count(6)=5 count(7)=45");
        E.edge(11, "never refused", "twice()=-1!2 cast()=true");
    }

    private static void meets() {
        E.edge(12, "k 0 is all that is not 0", "mask(1,-1,0,1) meets(0)=3");
        E.edge(12, "k n - 1", "mask(1,1,0,1,0) meets(4)=1 meets(1)=1 meets(2)=2 meets(3)=2");
        E.edge(12, "the last place meets place 0", "mask(1,0,0,-1) meets(1)=-1 meets(3)=-1 meets(2)=0");
        E.edge(12, "one place", "meets(0)=0 set(0,0,-1) meets(0)=1 meets(1)=0!1");
        E.edge(12, "two places meet twice", "mask(1,-1) meets(0)=2 meets(1)=-2");
        E.edge(12, "60 places, all holes", "ring(60) all(0,1) meets(0)=60 meets(1)=60 meets(59)=60 meets(60)=0!1");
        E.eachStill(12, "k not 0 .. n - 1", RICH, "meets(-1)=0!1", "meets(3)=0!1", "meets(MIN)=0!1", "meets(MAX)=0!1");
        E.eachStill(12, "k not 0 .. 59", WIDE, "meets(60)=0!1", "meets(-1)=0!1");
        E.eachStill(12, "changes nothing", RICH, "meets(0)=2", "meets(1)=1", "meets(2)=1");
    }

    private static void off() {
        E.edge(13, "NONE of one place, not refused", "ring(0)=false!1 off()=-1 set(0,0,1) off()=-1");
        E.edge(13, "NONE of two places", "mask(1,0) off()=-1 mask(1,-1) off()=-1");
        E.edge(13, "NONE of three places", "mask(1,0,-1) off()=-1 mask(1,0,0) off()=-1");
        E.edge(13, "k 2 is the least", "mask(1,0,1,0) off()=2 mask(1,1,0,0) off()=2");
        E.edge(13, "NONE of four places", "mask(1,1,1,0) off()=-1 mask(-1,1,1,1) off()=-1");
        E.edge(13, "the last k that can be, of 6, 7 and 60",
            "mask(1,0,0,1,0,0) off()=3 mask(1,0,0,1,0,0,0) off()=3 ring(60) set(0,0,1) set(0,30,1) off()=30");
        E.edge(13, "NONE of 60, empty and full", "ring(60) off()=-1 all(0,1) off()=-1");
        E.edge(13, "the less ones count", "mask(-1,1,0,0) off()=2 meets(1)=-1 meets(2)=0");
        E.still(13, "changes nothing", RICH, "off()=-1");
        E.still(13, "changes nothing of 60", WIDE, "off()=2");
    }

    private static void turn() {
        String five = "mask(1,0,-1,0,0) ";
        String[] rows = {"1,0,-1,0,0", "0,-1,0,0,1", "-1,0,0,1,0", "0,0,1,0,-1", "0,1,0,-1,0"};
        int[][] turns = {{0, 0}, {1, 1}, {4, 4}, {5, 0}, {6, 1}, {-1, 4}, {-4, 1}, {-5, 0}, {-6, 4}, {1000003, 3},
            {Integer.MAX_VALUE, 2}, {Integer.MIN_VALUE, 2}, {Integer.MIN_VALUE + 1, 3}, {Integer.MAX_VALUE - 1, 1}};
        for (int[] turn : turns) {
            E.edge(14, "k " + turn[0] + " of 5", five + "turn(" + turn[0] + ")=true row(0)=" + rows[turn[1]]);
        }
        E.edge(14, "the greatest k of 60", "ring(60) set(0,0,1) turn(MAX)=true at(0,53)=1 count(1)=1");
        E.edge(14, "the least k of 60", "ring(60) set(0,0,1) turn(MIN)=true at(0,8)=1 count(1)=1");
        E.edge(14, "the first place of 60 becomes the last", "ring(60) set(0,0,1) turn(1)=true at(0,59)=1 at(0,0)=0");
        E.edge(14, "the last place of 60 becomes the first", "ring(60) set(0,59,1) turn(-1)=true at(0,0)=1 at(0,59)=0");
        E.edge(14, "one place", "mask(-1) turn(MAX)=true row(0)=-1 turn(MIN)=true row(0)=-1 turn(1)=true row(0)=-1");
        E.edge(14, "back is gone", RICH + "turn(1)=true back(0)=0!2 noise(0)=0!2");
        E.edge(14, "back is gone by no turn and by a whole one", "mask(1,1,0) undo() turn(0) back(0)=0!2 undo() turn(3) back(0)=0!2");
        E.edge(14, "scene and readings stay", RICH + "turn(1)=true row(1)=7,-8,9 at(2,0)=5 at(2,1)=throws at(2,2)=4");
        E.edge(14, "never refused", "twice()=-1!2 turn(7)=true");
    }

    private static void anti() {
        E.edge(15, "all stops become holes", "ring(60) anti()=true count(1)=60 at(0,0)=1 at(0,59)=1");
        E.edge(15, "all holes become stops", "ring(60) all(0,1) anti()=true count(1)=0 count(2)=0");
        E.edge(15, "one place", "anti()=true row(0)=1 anti()=true row(0)=0");
        E.edge(15, "the first and the last place", "mask(1,0,0) anti()=true row(0)=0,1,1 mask(0,0,1) anti()=true row(0)=1,1,0");
        E.still(15, "a -1 at the first place", "mask(-1,1,1) fill(1,1,2,3) undo() miss(0) table(0,1) sheet(0,2)", "anti()=false!1");
        E.still(15, "a -1 at the last place", "mask(1,1,-1) fill(1,1,2,3) undo() miss(0) table(0,1) sheet(0,2)", "anti()=false!1");
        E.still(15, "a -1 at the last place of 60", WIDE + "set(0,59,-1)", "anti()=false!1");
        E.still(15, "a -1 at the only place", "mask(-1) undo()", "anti()=false!1");
        E.edge(15, "back is gone", RICH + "anti()=true row(0)=0,0,1 back(0)=0!2 noise(1)=0!2");
        E.edge(15, "scene and readings stay", RICH + "anti()=true row(1)=7,-8,9 at(2,0)=5 at(2,1)=throws at(2,2)=4");
    }

    private static void fold() {
        String six = "mask(1,-1,0,0,1,1) fill(1,1,2,3,4,5,6) sheet(0,1) table(0,1) ";
        E.edge(16, "the first field and the last", six + "fold(2,3,0,0)=1 fold(2,3,1,2)=1 fold(3,2,2,1)=1");
        E.edge(16, "each field", six + "fold(2,3,0,1)=1 fold(2,3,0,2)=0 fold(2,3,1,0)=0 fold(2,3,1,1)=-1");
        E.edge(16, "a 1 and b n, and the other way", six + "fold(1,6,0,5)=1 fold(1,6,0,1)=-1 fold(6,1,5,0)=1 fold(6,1,1,0)=-1");
        E.edge(16, "one place", "mask(-1) fold(1,1,0,0)=-1");
        E.edge(16, "60 places, the last one", "ring(60) set(0,59,1) fold(4,15,3,14)=1 fold(15,4,14,3)=1 fold(60,1,59,0)=1");
        E.eachStill(16, "a * b is not n", six, "fold(2,2,0,0)=0!1", "fold(1,5,0,0)=0!1", "fold(1,7,0,0)=0!1",
            "fold(5,1,0,0)=0!1", "fold(7,1,0,0)=0!1", "fold(MAX,MAX,0,0)=0!1", "fold(1,1,0,0)=0!1");
        E.still(16, "a * b is n only where ints go round", six, "fold(7,1227133514,0,0)=0!1");
        E.still(16, "a and b share 2, of 4", "mask(1,1,1,1)", "fold(2,2,0,0)=0!1");
        E.still(16, "a and b share 3, of 9", "ring(9) all(0,1)", "fold(3,3,0,0)=0!1");
        E.eachStill(16, "a and b share a divisor, of 60", WIDE + "all(0,1)", "fold(2,30,0,0)=0!1", "fold(30,2,1,1)=0!1",
            "fold(6,10,0,0)=0!1", "fold(10,6,0,0)=0!1");
        E.eachStill(16, "x not 0 .. a - 1", six, "fold(2,3,-1,1)=0!1", "fold(2,3,2,0)=0!1", "fold(2,3,MIN,0)=0!1",
            "fold(2,3,MAX,0)=0!1", "fold(1,6,1,0)=0!1");
        E.eachStill(16, "y not 0 .. b - 1", six, "fold(2,3,1,-1)=0!1", "fold(2,3,0,3)=0!1", "fold(2,3,0,MIN)=0!1",
            "fold(2,3,0,MAX)=0!1", "fold(6,1,0,1)=0!1");
        E.eachStill(16, "a or b below 1", six, "fold(0,6,0,0)=0!1", "fold(6,0,0,0)=0!1", "fold(0,0,0,0)=0!1",
            "fold(-2,-3,0,0)=0!1", "fold(-1,-6,0,0)=0!1", "fold(MIN,MIN,0,0)=0!1", "fold(-2,3,0,0)=0!1");
        E.eachStill(16, "changes nothing", RICH, "fold(1,3,0,0)=1", "fold(3,1,2,0)=0");
    }
}
