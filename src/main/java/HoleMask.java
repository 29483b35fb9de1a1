import java.util.Arrays;
import java.util.NoSuchElementException;

/** Masks with holes on a ring, their shadows undone exactly, and tables whose rows are square. */
public final class HoleMask {
    public static final int NONE = -1;

    private static final int FINE = 0;
    private static final int BAD_NUMBER = 1;
    private static final int NOTHING_THERE = 2;
    private static final int TOO_MANY = 3;
    private static final int LENGTH_BELOW_ZERO = 4;

    private static final int MASK = 0;
    private static final int SCENE = 1;
    private static final int READINGS = 2;

    private static final int MOST_PLACES = 60;
    private static final int MOST_HEIGHT = 1000;
    private static final int MOST_MISS = 1000;
    private static final int LONGEST_SHIFT = 5;

    private static final int NO_WHOLE_SCENE = -2;

    private final Circle circle = new Circle();
    private final Paper paper = new Paper();
    private final Undoer undoer = new Undoer();
    private final Finder finder = new Finder();
    private final Board board = new Board();
    private int latestFault = FINE;

    public HoleMask() {
    }

    // ---- the ring

    public boolean ring(int n) {
        if (refuses(n < 1 || n > MOST_PLACES ? BAD_NUMBER : FINE)) {
            return false;
        }
        startRing(n);
        return true;
    }

    public int sheet(int kind, int m) {
        if (refuses(sheetFault(kind, m))) {
            return NONE;
        }
        paper.take(kind, kind == Paper.MISSING ? 0 : m);
        return paper.length;
    }

    public boolean entry(int i, int v) {
        int fault = paper.kind == Paper.NO_PAPER || paper.kind == Paper.MISSING ? NOTHING_THERE
                : i < 0 || i >= paper.length ? BAD_NUMBER : FINE;
        if (refuses(fault)) {
            return false;
        }
        paper.write(i, v);
        return true;
    }

    public boolean lay(int what) {
        if (refuses(layFault(what))) {
            return false;
        }
        for (int i = 0; i < circle.n; i++) {
            circle.put(what, i, paper.read(i));
        }
        paper.drop();
        forgetBackOf(what);
        return true;
    }

    public boolean set(int what, int place, int v) {
        boolean can = Circle.isRow(what) && circle.has(place) && Circle.fits(what, v);
        if (refuses(can ? FINE : BAD_NUMBER)) {
            return false;
        }
        circle.put(what, place, v);
        forgetBackOf(what);
        return true;
    }

    public boolean miss(int place) {
        if (refuses(circle.has(place) ? FINE : BAD_NUMBER)) {
            return false;
        }
        circle.put(READINGS, place, Circle.NOT_READ);
        return true;
    }

    public int at(int what, int place) throws NoSuchElementException {
        if (!Circle.isRow(what) || !circle.has(place)) {
            throw new NoSuchElementException("no such place");
        }
        int number = circle.get(what, place);
        if (number == Circle.NOT_READ) {
            throw new NoSuchElementException("the reading is missing");
        }
        return number;
    }

    public int count(int what) {
        if (refuses(what < 0 || what > 7 ? BAD_NUMBER : FINE)) {
            return NONE;
        }
        switch (what) {
            case 0:
                return circle.n;
            case 1:
                return circle.tally(MASK, 1);
            case 2:
                return circle.tally(MASK, -1);
            case 3:
                return circle.tally(READINGS, Circle.NOT_READ);
            case 4:
                return circle.firstOff() == NONE ? 1 : 0;
            case 5:
                return board.size == 0 ? NONE : board.size;
            case 6:
                return paper.kind == Paper.NO_PAPER ? NONE : paper.length;
            default:
                return finder.total;
        }
    }

    public int shadow(int place) {
        if (refuses(circle.has(place) ? FINE : BAD_NUMBER)) {
            return 0;
        }
        return circle.shadowAt(place);
    }

    public boolean cast() {
        latestFault = FINE;
        for (int s = 0; s < circle.n; s++) {
            circle.put(READINGS, s, circle.shadowAt(s));
        }
        return true;
    }

    public int meets(int k) {
        if (refuses(circle.has(k) ? FINE : BAD_NUMBER)) {
            return 0;
        }
        return circle.meetsAt(k);
    }

    public int off() {
        latestFault = FINE;
        return circle.firstOff();
    }

    public boolean turn(int k) {
        latestFault = FINE;
        circle.turnMask(k);
        undoer.told = false;
        return true;
    }

    public boolean anti() {
        if (refuses(circle.tally(MASK, -1) > 0 ? BAD_NUMBER : FINE)) {
            return false;
        }
        for (int i = 0; i < circle.n; i++) {
            circle.put(MASK, i, 1 - circle.get(MASK, i));
        }
        undoer.told = false;
        return true;
    }

    public int fold(int a, int b, int x, int y) {
        if (refuses(canFold(a, b, x, y) ? FINE : BAD_NUMBER)) {
            return 0;
        }
        for (int i = 0; i < circle.n; i++) {
            if (i % a == x && i % b == y) {
                return circle.get(MASK, i);
            }
        }
        return 0;
    }

    // ---- masks that are made (a new RING as by ring(), then THE MASK)

    public int rests(int p) {
        if (refuses(isRestPrime(p) ? FINE : BAD_NUMBER)) {
            return NONE;
        }
        startRing(p);
        for (int i = 0; i < p; i++) {
            circle.put(MASK, i, isSquare(i, p) ? 1 : 0);
        }
        return circle.tally(MASK, 1);
    }

    public int twins(int p) {
        if (refuses(isTwinPrime(p) ? FINE : BAD_NUMBER)) {
            return NONE;
        }
        int q = p + 2;
        startRing(p * q);
        for (int i = 0; i < p * q; i++) {
            boolean alike = i % p != 0 && isSquare(i, p) == isSquare(i, q);
            circle.put(MASK, i, i % q == 0 || alike ? 1 : 0);
        }
        return circle.tally(MASK, 1);
    }

    public int shift(int r) {
        if (refuses(r < 2 || r > LONGEST_SHIFT ? BAD_NUMBER : FINE)) {
            return NONE;
        }
        int n = (1 << r) - 1;
        int taps = leastTaps(r, n);
        startRing(n);
        int state = 1 << (r - 1);
        for (int i = 0; i < n; i++) {
            circle.put(MASK, i, state & 1);
            state = nextState(state, taps, r);
        }
        return taps;
    }

    // ---- shadows undone

    public long undo() {
        if (refuses(smallRingFault())) {
            return NONE;
        }
        undoer.told = undoer.invert(circle);
        return undoer.told ? undoer.divisor : 0;
    }

    public long back(int j) {
        if (refuses(!circle.has(j) ? BAD_NUMBER : undoer.told ? FINE : NOTHING_THERE)) {
            return 0;
        }
        return undoer.backAt(j);
    }

    public long noise(int what) {
        if (refuses(what < 0 || what > 1 ? BAD_NUMBER : undoer.told ? FINE : NOTHING_THERE)) {
            return 0;
        }
        return undoer.noisePart(what == 0, circle.n);
    }

    public int rank() {
        if (refuses(smallRingFault())) {
            return NONE;
        }
        return undoer.reduce(circle);
    }

    public int lost() {
        if (refuses(smallRingFault())) {
            return NONE;
        }
        int last = undoer.reduce(circle);
        if (last >= circle.n) {
            return NONE;
        }
        undoer.showLost(circle, last);
        return last;
    }

    public int solve() {
        boolean missing = circle.tally(READINGS, Circle.NOT_READ) > 0;
        if (refuses(missing ? BAD_NUMBER : smallRingFault())) {
            return NONE;
        }
        if (!undoer.invert(circle)) {
            return 0;
        }
        return undoer.showSolved(circle) ? 1 : NO_WHOLE_SCENE;
    }

    public int sure() {
        if (refuses(smallRingFault())) {
            return NONE;
        }
        // n unknown numbers need n readings: with one missing, some two scenes stay alike.
        boolean allRead = circle.tally(READINGS, Circle.NOT_READ) == 0;
        return allRead && undoer.reduce(circle) == circle.n ? 1 : 0;
    }

    // ---- points

    public int points(int miss) {
        if (refuses(miss < 0 || miss > MOST_MISS ? BAD_NUMBER : FINE)) {
            return NONE;
        }
        finder.search(circle, miss);
        return finder.total;
    }

    public int point(int i, int what) {
        latestFault = FINE;
        return finder.part(i, what);
    }

    // ---- tables

    public int table(int kind, int k) {
        boolean doubled = kind == 0 && k >= 0 && k <= Board.MOST_DOUBLINGS;
        boolean byRests = kind == 1 && isRestPrime(k) && k < Board.MOST_ROWS;
        if (refuses(doubled || byRests ? FINE : BAD_NUMBER)) {
            return NONE;
        }
        if (doubled) {
            board.makeDoubled(k);
        } else {
            board.makeByRests(k);
        }
        return board.size;
    }

    public int twice() {
        int fault = board.size == 0 ? NOTHING_THERE
                : 2 * board.size > Board.MOST_ROWS ? TOO_MANY : FINE;
        if (refuses(fault)) {
            return NONE;
        }
        board.doubleUp();
        return board.size;
    }

    public boolean swap(int a, int b) {
        if (refuses(rowsFault(a, b))) {
            return false;
        }
        board.swapRows(a, b);
        return true;
    }

    public int sign(int i, int j) {
        latestFault = FINE;
        return board.has(i) && board.has(j) ? board.signAt(i, j) : 0;
    }

    public int product(int a, int b) {
        if (refuses(rowsFault(a, b))) {
            return 0;
        }
        return board.rowProduct(a, b);
    }

    public int look(int i) {
        if (refuses(rowsFault(i, i))) {
            return 0;
        }
        int seen = Math.min(board.size, circle.n);
        int sum = 0;
        for (int j = 0; j < seen; j++) {
            sum += circle.get(SCENE, j) * board.signAt(i, j);
        }
        return sum;
    }

    public int fault() {
        return latestFault;
    }

    /** Keeps the fault of this call; whether there is one. */
    private boolean refuses(int fault) {
        latestFault = fault;
        return fault != FINE;
    }

    private void startRing(int n) {
        circle.start(n);
        undoer.told = false;
    }

    private void forgetBackOf(int what) {
        if (what == MASK) {
            undoer.told = false;
        }
    }

    private static int sheetFault(int kind, int m) {
        if (kind < Paper.BYTES || kind > Paper.MISSING) {
            return BAD_NUMBER;
        }
        if (kind == Paper.MISSING) {
            return FINE;
        }
        if (m > MOST_PLACES) {
            return BAD_NUMBER;
        }
        return m < 0 ? LENGTH_BELOW_ZERO : FINE;
    }

    private int layFault(int what) {
        if (!Circle.isRow(what)) {
            return BAD_NUMBER;
        }
        if (paper.kind == Paper.NO_PAPER) {
            return NOTHING_THERE;
        }
        for (int i = 0; i < circle.n; i++) {
            if (!Circle.fits(what, paper.read(i))) {
                return BAD_NUMBER;
            }
        }
        return FINE;
    }

    private boolean canFold(int a, int b, int x, int y) {
        // As long, since a product of two ints that wraps round could look like n.
        return a >= 1 && b >= 1 && (long) a * b == circle.n && commonDivisor(a, b) == 1
                && x >= 0 && x < a && y >= 0 && y < b;
    }

    private int smallRingFault() {
        return circle.n > Undoer.MOST ? BAD_NUMBER : FINE;
    }

    private int rowsFault(int a, int b) {
        if (board.size == 0) {
            return NOTHING_THERE;
        }
        return board.has(a) && board.has(b) ? FINE : BAD_NUMBER;
    }

    private static boolean isPrime(int p) {
        for (int d = 2; d < p; d++) {
            if (p % d == 0) {
                return false;
            }
        }
        return p >= 2;
    }

    private static boolean isRestPrime(int p) {
        return p >= 3 && p < MOST_PLACES && p % 4 == 3 && isPrime(p);
    }

    private static boolean isTwinPrime(int p) {
        return p >= 2 && p < MOST_PLACES && p * (p + 2) <= MOST_PLACES
                && isPrime(p) && isPrime(p + 2);
    }

    /** Whether x is a square by p, and not 0 by p. */
    private static boolean isSquare(int x, int p) {
        for (int root = 1; root < p; root++) {
            if ((root * root - x) % p == 0) {
                return x % p != 0;
            }
        }
        return false;
    }

    /** The shift row's window of r bits, its earliest lowest, one step on. */
    private static int nextState(int state, int taps, int r) {
        int fresh = Integer.bitCount(state & taps) & 1;
        return state >> 1 | fresh << (r - 1);
    }

    private static int leastTaps(int r, int n) {
        for (int taps = 1; taps <= n; taps += 2) {
            if (stepsRound(taps, r, n) == n) {
                return taps;
            }
        }
        return NONE;
    }

    private static int stepsRound(int taps, int r, int n) {
        int first = 1 << (r - 1);
        int state = first;
        for (int step = 1; step <= n; step++) {
            state = nextState(state, taps, r);
            if (state == first) {
                return step;
            }
        }
        return NONE;
    }

    private static long commonDivisor(long a, long b) {
        long larger = Math.abs(a);
        long smaller = Math.abs(b);
        // Two longs are through after 92 steps at the most.
        for (int step = 0; step < 100 && smaller != 0; step++) {
            long rest = larger % smaller;
            larger = smaller;
            smaller = rest;
        }
        return larger;
    }

    private static long quotient(long number, long divisor) {
        return divisor == 0 ? 0 : number / divisor;
    }

    /** The ring with its three rows of numbers. */
    private static final class Circle {
        /** Stands for a missing reading: far outside what a reading can be. */
        private static final int NOT_READ = 1 << 30;
        private static final int[] LIMITS = {1, MOST_HEIGHT, 1000000};

        private final int[][] rows = new int[3][MOST_PLACES];
        private final int[] turned = new int[MOST_PLACES];
        private int n = 1;

        private static boolean isRow(int what) {
            return what >= MASK && what <= READINGS;
        }

        private static boolean fits(int what, int v) {
            return v >= -LIMITS[what] && v <= LIMITS[what];
        }

        private void start(int places) {
            n = places;
            for (int what = MASK; what <= READINGS; what++) {
                Arrays.fill(rows[what], 0);
            }
        }

        private boolean has(int place) {
            return place >= 0 && place < n;
        }

        private int get(int what, int place) {
            return rows[what][place];
        }

        private void put(int what, int place, int v) {
            rows[what][place] = v;
        }

        /** The place for a number that is less than one round off. */
        private int wrap(int i) {
            return i < 0 ? i + n : i >= n ? i - n : i;
        }

        private int tally(int what, int v) {
            int sum = 0;
            for (int i = 0; i < n; i++) {
                if (rows[what][i] == v) {
                    sum++;
                }
            }
            return sum;
        }

        /** What the shadow at s takes of the scene at a place: -1, 0 or 1. */
        private int share(int place, int s) {
            return rows[MASK][wrap(place - s)];
        }

        private int shadowAt(int s) {
            return throughMask(rows[SCENE], s);
        }

        private int meetsAt(int k) {
            return throughMask(rows[MASK], k);
        }

        private int throughMask(int[] row, int s) {
            int sum = 0;
            for (int i = 0; i < n; i++) {
                sum += rows[MASK][i] * row[wrap(s + i)];
            }
            return sum;
        }

        private int firstOff() {
            for (int k = 2; k < n; k++) {
                if (meetsAt(k) != meetsAt(1)) {
                    return k;
                }
            }
            return NONE;
        }

        private void turnMask(int k) {
            int by = n < 1 ? 0 : Math.floorMod(k, n);
            for (int i = 0; i < n; i++) {
                turned[i] = rows[MASK][wrap(i + by)];
            }
            System.arraycopy(turned, 0, rows[MASK], 0, n);
        }
    }

    /** The sheet: entries that wait to be laid. */
    private static final class Paper {
        private static final int NO_PAPER = -1;
        private static final int BYTES = 0;
        private static final int SHORTS = 1;
        private static final int MISSING = 3;

        private final int[] entries = new int[MOST_PLACES];
        private int kind = NO_PAPER;
        private int length = 0;

        private void take(int newKind, int newLength) {
            kind = newKind;
            length = newLength;
            Arrays.fill(entries, 0);
        }

        private void drop() {
            kind = NO_PAPER;
            length = 0;
        }

        private void write(int i, int v) {
            entries[i] = kind == BYTES ? (byte) v : kind == SHORTS ? (short) v : v;
        }

        private int read(int i) {
            return i >= 0 && i < length ? entries[i] : 0;
        }
    }

    /**
     * Undoes shadows of small rings in whole numbers alone. All cells stay minors of a matrix of
     * -1, 0 and 1 with 14 rows, so by Hadamard's bound under 14^7, and products of two fit a long.
     */
    private static final class Undoer {
        private static final int MOST = 14;

        private final long[][] cells = new long[MOST][MOST + 1];
        private final long[] backs = new long[MOST];
        private final long[] numbers = new long[MOST];
        private long divisor = 1;
        /** Whether backs and divisor are BACK: undo() told them, and the mask is as it was then. */
        private boolean told = false;

        /**
         * Reduces the shadow's matrix, with a last column that asks for a shadow of 1 at place 0
         * alone, up to the first column that hangs on those ahead of it; that column, or n. It is
         * the rank too: each column is the one ahead turned by a place, so if one hangs on those
         * ahead of it, all later ones do.
         */
        private int reduce(Circle circle) {
            int n = Math.min(circle.n, MOST);
            fillCells(circle, n);
            long before = 1;
            for (int c = 0; c < n; c++) {
                int r = rowToLead(c, n);
                if (r == NONE) {
                    return c;
                }
                swapCells(c, r, n);
                clearColumn(c, n, before);
                before = cells[c][c];
            }
            return n;
        }

        private void fillCells(Circle circle, int n) {
            for (int s = 0; s < n; s++) {
                for (int place = 0; place < n; place++) {
                    cells[s][place] = circle.share(place, s);
                }
                cells[s][n] = s == 0 ? 1 : 0;
            }
        }

        private int rowToLead(int c, int n) {
            for (int r = c; r < n; r++) {
                if (cells[r][c] != 0) {
                    return r;
                }
            }
            return NONE;
        }

        private void swapCells(int a, int b, int n) {
            for (int j = 0; j <= n; j++) {
                long kept = cells[a][j];
                cells[a][j] = cells[b][j];
                cells[b][j] = kept;
            }
        }

        /** Bareiss's step, above the leading row too: the division always comes out even. */
        private void clearColumn(int c, int n, long before) {
            long lead = cells[c][c];
            for (int r = 0; r < n; r++) {
                long factor = cells[r][c];
                for (int j = 0; j <= n && r != c; j++) {
                    cells[r][j] = quotient(lead * cells[r][j] - factor * cells[c][j], before);
                }
            }
        }

        /** Finds backs and divisor, if the mask can be undone; whether it can. */
        private boolean invert(Circle circle) {
            int n = Math.min(circle.n, MOST);
            if (reduce(circle) < n) {
                return false;
            }
            long whole = cells[n - 1][n - 1];
            long common = whole;
            for (int j = 0; j < n; j++) {
                common = commonDivisor(common, cells[j][n]);
            }
            long scale = whole < 0 ? -common : common;
            divisor = quotient(whole, scale);
            for (int j = 0; j < n; j++) {
                // The last column is the scene of a shadow at 0 alone: there b stands mirrored.
                backs[j] = quotient(cells[circle.wrap(-j)][n], scale);
            }
            return true;
        }

        private long backAt(int j) {
            return j >= 0 && j < MOST ? backs[j] : 0;
        }

        private long noisePart(boolean above, int n) {
            long squares = 0;
            for (int j = 0; j < n && j < MOST; j++) {
                squares += backs[j] * backs[j];
            }
            long below = divisor * divisor;
            return quotient(above ? squares : below, commonDivisor(squares, below));
        }

        /** Makes LOST the scene, from the cells that reduce() left when it stopped at last. */
        private void showLost(Circle circle, int last) {
            long lead = last == 0 ? 1 : cells[last - 1][last - 1];
            long common = lead;
            for (int i = 0; i < last; i++) {
                common = commonDivisor(common, cells[i][last]);
            }
            long scale = lead < 0 ? -common : common;
            for (int i = 0; i < circle.n; i++) {
                long number = i < last ? -cells[i][last] : i == last ? lead : 0;
                circle.put(SCENE, i, (int) quotient(number, scale));
            }
        }

        /** Makes the scene what the readings show, by backs; false if it is none of whole numbers. */
        private boolean showSolved(Circle circle) {
            int n = Math.min(circle.n, MOST);
            for (int s = 0; s < n; s++) {
                long sum = 0;
                for (int j = 0; j < n; j++) {
                    sum += backs[j] * circle.get(READINGS, circle.wrap(s + j));
                }
                numbers[s] = quotient(sum, divisor);
                boolean inside = numbers[s] >= -MOST_HEIGHT && numbers[s] <= MOST_HEIGHT;
                if (!inside || numbers[s] * divisor != sum) {
                    return false;
                }
            }
            for (int s = 0; s < n; s++) {
                circle.put(SCENE, s, (int) numbers[s]);
            }
            return true;
        }
    }

    /**
     * Finds the scenes of at most two points. A reading sees, but for its sign, one of five: nothing,
     * the second height, the first less the second, the first, or both together; so for a pair of
     * places the readings leave five windows, whatever the heights are.
     */
    private static final class Finder {
        private static final int TOLD_AT_MOST = 200;
        private static final int PARTS = 4;
        private static final int TOP = 9;
        private static final int WINDOWS = 5;
        private static final int SECOND = 1;
        private static final int LESS = 2;
        private static final int FIRST = 3;
        private static final int BOTH = 4;
        /** Wider than any reading with its miss. */
        private static final int WIDE = 2000000;

        /** The windows with a second point at a place p begin at p * WINDOWS. */
        private final int[] least = new int[MOST_PLACES * WINDOWS];
        private final int[] most = new int[MOST_PLACES * WINDOWS];
        private final int[] found = new int[TOLD_AT_MOST * PARTS];
        private int total = 0;

        private void search(Circle circle, int miss) {
            total = 0;
            openWindows(circle, NONE, NONE, miss);
            if (holds(0, 0)) {
                tell(NONE, 0, NONE, 0);
            }
            for (int a = 0; a < circle.n; a++) {
                openWindows(circle, a, NONE, miss);
                for (int height = 1; height <= TOP; height++) {
                    if (holds(0, 0) && holds(FIRST, height)) {
                        tell(a, height, NONE, 0);
                    }
                }
            }
            for (int a = 0; a < circle.n; a++) {
                searchPairs(circle, a, miss);
            }
        }

        private void searchPairs(Circle circle, int a, int miss) {
            for (int b = a + 1; b < circle.n; b++) {
                openWindows(circle, a, b, miss);
            }
            for (int height = 1; height <= TOP; height++) {
                for (int b = a + 1; b < circle.n; b++) {
                    tellSeconds(a, height, b);
                }
            }
        }

        /** Narrows the windows of points at a and b (either may be NONE) by each reading. */
        private void openWindows(Circle circle, int a, int b, int miss) {
            int start = b == NONE ? 0 : b * WINDOWS;
            for (int window = start; window < start + WINDOWS; window++) {
                least[window] = -WIDE;
                most[window] = WIDE;
            }
            for (int s = 0; s < circle.n; s++) {
                int reading = circle.get(READINGS, s);
                if (reading == Circle.NOT_READ) {
                    continue;
                }
                int first = a == NONE ? 0 : circle.share(a, s);
                int second = b == NONE ? 0 : circle.share(b, s);
                int kind = 3 * first + second;
                int value = kind < 0 ? -reading : reading;
                int window = start + Math.abs(kind);
                least[window] = Math.max(least[window], value - miss);
                most[window] = Math.min(most[window], value + miss);
                if (kind == 0 && !holds(start, 0)) {
                    return;
                }
            }
        }

        private boolean holds(int window, int value) {
            return least[window] <= value && value <= most[window];
        }

        private void tellSeconds(int a, int height, int b) {
            int start = b * WINDOWS;
            if (!holds(start, 0) || !holds(start + FIRST, height)) {
                return;
            }
            int low = Math.max(1, least[start + SECOND]);
            low = Math.max(low, least[start + BOTH] - height);
            low = Math.max(low, height - most[start + LESS]);
            int high = Math.min(TOP, most[start + SECOND]);
            high = Math.min(high, most[start + BOTH] - height);
            high = Math.min(high, height - least[start + LESS]);
            int second = low;
            for (; second <= high && total < TOLD_AT_MOST; second++) {
                tell(a, height, b, second);
            }
            total += Math.max(0, high - second + 1);
        }

        private void tell(int a, int heightA, int b, int heightB) {
            if (total < TOLD_AT_MOST) {
                int start = total * PARTS;
                found[start] = a;
                found[start + 1] = heightA;
                found[start + 2] = b;
                found[start + 3] = heightB;
            }
            total++;
        }

        private int part(int i, int what) {
            boolean there = i >= 0 && i < Math.min(total, TOLD_AT_MOST);
            return there && what >= 0 && what < PARTS ? found[i * PARTS + what] : NONE;
        }
    }

    /** The table; of each row the bits stand where it has -1. */
    private static final class Board {
        private static final int MOST_ROWS = 32;
        private static final int MOST_DOUBLINGS = 5;

        private final int[] rows = new int[MOST_ROWS];
        /** 0: there is no table. */
        private int size = 0;

        private boolean has(int row) {
            return row >= 0 && row < size;
        }

        private void makeDoubled(int k) {
            size = 1 << k;
            for (int i = 0; i < size; i++) {
                rows[i] = 0;
                for (int j = 0; j < size; j++) {
                    rows[i] |= (Integer.bitCount(i & j) & 1) << j;
                }
            }
        }

        private void makeByRests(int p) {
            size = p + 1;
            rows[0] = 0;
            for (int i = 1; i < size; i++) {
                rows[i] = 0;
                for (int j = 1; j < size; j++) {
                    rows[i] |= isSquare(j - i + p, p) ? 0 : 1 << j;
                }
            }
        }

        private void doubleUp() {
            int old = size;
            for (int i = 0; i < old; i++) {
                int row = rows[i];
                rows[i] = row | row << old;
                rows[i + old] = row | (row ^ allColumns(old)) << old;
            }
            size = 2 * old;
        }

        private static int allColumns(int columns) {
            return -1 >>> (MOST_ROWS - columns);
        }

        private void swapRows(int a, int b) {
            if (a == b) {
                rows[a] ^= allColumns(size);
                return;
            }
            int kept = rows[a];
            rows[a] = rows[b];
            rows[b] = kept;
        }

        private int signAt(int i, int j) {
            return (rows[i] >> j & 1) == 0 ? 1 : -1;
        }

        private int rowProduct(int a, int b) {
            return size - 2 * Integer.bitCount(rows[a] ^ rows[b]);
        }
    }
}
