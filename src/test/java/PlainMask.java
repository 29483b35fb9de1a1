import java.math.BigInteger;
import java.util.ArrayList;
import java.util.List;

/**
 * The document again, as slowly and plainly as can be, by fractions of any size and by trying all:
 * what ModelTest holds HoleMask against. A call answers the number, or null where it throws.
 */
final class PlainMask {
    private static final int[] LIMITS = {1, 1000, 1000000};

    private List<Integer> mask = zeros(1);
    private List<Integer> scene = zeros(1);
    private List<Integer> readings = zeros(1);
    private String sheetKind = "";
    private final List<Integer> sheet = new ArrayList<>();
    private List<BigInteger> back = null;
    private int[][] table = null;
    private List<int[]> told = new ArrayList<>();
    private long fault = 0;

    private static List<Integer> zeros(int n) {
        List<Integer> row = new ArrayList<>();
        for (int i = 0; i < n; i++) {
            row.add(0);
        }
        return row;
    }

    private int n() {
        return mask.size();
    }

    private List<Integer> row(int what) {
        return what == 0 ? mask : what == 1 ? scene : readings;
    }

    private boolean place(int p) {
        return 0 <= p && p < n();
    }

    private Long no(long answer, int code) {
        fault = code;
        return answer;
    }

    Long call(String name, int[] v) {
        if (name.equals("fault")) {
            return fault;
        }
        if (name.equals("at")) {
            boolean there = v[0] >= 0 && v[0] <= 2 && place(v[1]) && row(v[0]).get(v[1]) != null;
            return there ? Long.valueOf(row(v[0]).get(v[1])) : null;
        }
        fault = 0;
        switch (name) {
            case "ring": return v[0] < 1 || v[0] > 60 ? no(0, 1) : renew(v[0], 1);
            case "sheet": return sheet(v[0], v[1]);
            case "entry": return entry(v[0], v[1]);
            case "lay": return lay(v[0]);
            case "set": return set(v[0], v[1], v[2]);
            case "miss": return place(v[0]) ? missing(v[0]) : no(0, 1);
            case "count": return count(v[0]);
            case "shadow": return place(v[0]) ? sum(scene, v[0]) : no(0, 1);
            case "cast": return cast();
            case "meets": return place(v[0]) ? sum(mask, v[0]) : no(0, 1);
            case "off": return off();
            case "turn": return turn(v[0]);
            case "anti": return anti();
            case "fold": return fold(v[0], v[1], v[2], v[3]);
            case "rests": return rests(v[0]);
            case "twins": return twins(v[0]);
            case "shift": return shift(v[0]);
            case "points": return v[0] < 0 || v[0] > 1000 ? no(-1, 1) : points(v[0]);
            case "point": return point(v[0], v[1]);
            default: return name.length() > 4 && isTable(name) || isShortTable(name)
                    ? tableCall(name, v) : undoCall(name, v);
        }
    }

    private static boolean isTable(String name) {
        return name.equals("table") || name.equals("twice") || name.equals("product");
    }

    private static boolean isShortTable(String name) {
        return name.equals("swap") || name.equals("sign") || name.equals("look");
    }

    private Long renew(int n, long answer) {
        mask = zeros(n);
        scene = zeros(n);
        readings = zeros(n);
        back = null;
        return answer;
    }

    private Long sheet(int kind, int m) {
        if (kind < 0 || kind > 3 || kind != 3 && m > 60) {
            return no(-1, 1);
        }
        if (kind != 3 && m < 0) {
            return no(-1, 4);
        }
        sheetKind = new String[] {"byte", "short", "int", "missing"}[kind];
        sheet.clear();
        sheet.addAll(zeros(kind == 3 ? 0 : m));
        return (long) sheet.size();
    }

    private Long entry(int i, int v) {
        if (sheetKind.isEmpty() || sheetKind.equals("missing")) {
            return no(0, 2);
        }
        if (i < 0 || i >= sheet.size()) {
            return no(0, 1);
        }
        int bits = sheetKind.equals("byte") ? 8 : sheetKind.equals("short") ? 16 : 32;
        long low = Math.floorMod((long) v, 1L << bits);
        sheet.set(i, (int) (low >= 1L << bits - 1 ? low - (1L << bits) : low));
        return 1L;
    }

    private Long lay(int what) {
        if (what < 0 || what > 2) {
            return no(0, 1);
        }
        if (sheetKind.isEmpty()) {
            return no(0, 2);
        }
        List<Integer> fresh = zeros(n());
        for (int i = 0; i < Math.min(n(), sheet.size()); i++) {
            if (Math.abs((long) sheet.get(i)) > LIMITS[what]) {
                return no(0, 1);
            }
            fresh.set(i, sheet.get(i));
        }
        for (int i = 0; i < n(); i++) {
            row(what).set(i, fresh.get(i));
        }
        sheetKind = "";
        sheet.clear();
        back = what == 0 ? null : back;
        return 1L;
    }

    private Long set(int what, int p, int v) {
        if (what < 0 || what > 2 || !place(p) || Math.abs((long) v) > LIMITS[what]) {
            return no(0, 1);
        }
        row(what).set(p, v);
        back = what == 0 ? null : back;
        return 1L;
    }

    private Long missing(int p) {
        readings.set(p, null);
        return 1L;
    }

    private long tally(List<Integer> row, Integer v) {
        long sum = 0;
        for (Integer number : row) {
            sum += v == null ? number == null ? 1 : 0 : v.equals(number) ? 1 : 0;
        }
        return sum;
    }

    private Long count(int what) {
        switch (what) {
            case 0: return (long) n();
            case 1: return tally(mask, 1);
            case 2: return tally(mask, -1);
            case 3: return tally(readings, null);
            case 4: return off() == -1 ? 1L : 0L;
            case 5: return table == null ? -1L : table.length;
            case 6: return sheetKind.isEmpty() ? -1L : sheet.size();
            case 7: return (long) told.size();
            default: return no(-1, 1);
        }
    }

    private long sum(List<Integer> row, int s) {
        long sum = 0;
        for (int i = 0; i < n(); i++) {
            sum += mask.get(i) * row.get((s + i) % n());
        }
        return sum;
    }

    private Long cast() {
        for (int s = 0; s < n(); s++) {
            readings.set(s, (int) sum(scene, s));
        }
        return 1L;
    }

    private Long off() {
        for (int k = 2; k < n(); k++) {
            if (sum(mask, k) != sum(mask, 1)) {
                return (long) k;
            }
        }
        return -1L;
    }

    private Long turn(int k) {
        List<Integer> old = new ArrayList<>(mask);
        for (int i = 0; i < n(); i++) {
            mask.set(i, old.get((int) Math.floorMod((long) i + k, (long) n())));
        }
        back = null;
        return 1L;
    }

    private Long anti() {
        if (mask.contains(-1)) {
            return no(0, 1);
        }
        for (int i = 0; i < n(); i++) {
            mask.set(i, mask.get(i) == 1 ? 0 : 1);
        }
        back = null;
        return 1L;
    }

    private Long fold(long a, long b, int x, int y) {
        if (a < 1 || b < 1 || a * b != n() || x < 0 || x >= a || y < 0 || y >= b) {
            return no(0, 1);
        }
        for (int d = 2; d <= a; d++) {
            if (a % d == 0 && b % d == 0) {
                return no(0, 1);
            }
        }
        int i = 0;
        while (i % a != x || i % b != y) {
            i++;
        }
        return (long) mask.get(i);
    }

    private static boolean in(int v, int... list) {
        for (int number : list) {
            if (v == number) {
                return true;
            }
        }
        return false;
    }

    private static boolean[] squares(int p) {
        boolean[] is = new boolean[p];
        for (int i = 1; i < p; i++) {
            is[i * i % p] = true;
        }
        return is;
    }

    private Long rests(int p) {
        if (!in(p, 3, 7, 11, 19, 23, 31, 43, 47, 59)) {
            return no(-1, 1);
        }
        renew(p, 0);
        for (int i = 1; i < p; i++) {
            mask.set(i * i % p, 1);
        }
        return tally(mask, 1);
    }

    private Long twins(int p) {
        if (!in(p, 3, 5)) {
            return no(-1, 1);
        }
        int q = p + 2;
        renew(p * q, 0);
        for (int i = 0; i < n(); i++) {
            boolean byP = squares(p)[i % p];
            boolean byQ = squares(q)[i % q];
            boolean hole = i % q == 0 || i % p != 0 && (byP && byQ || !byP && !byQ);
            mask.set(i, hole ? 1 : 0);
        }
        return tally(mask, 1);
    }

    private Long shift(int r) {
        if (r < 2 || r > 5) {
            return no(-1, 1);
        }
        int n = (1 << r) - 1;
        int t = 1;
        while (period(shiftRow(r, t, 3 * n), n) != n) {
            t += 2;
        }
        renew(n, 0);
        for (int i = 0; i < n; i++) {
            mask.set(i, shiftRow(r, t, 3 * n)[i]);
        }
        return (long) t;
    }

    private static int[] shiftRow(int r, int t, int length) {
        int[] s = new int[length];
        s[r - 1] = 1;
        for (int i = 0; i + r < length; i++) {
            for (int j = 0; j < r; j++) {
                s[i + r] ^= (t >> j & 1) * s[i + j];
            }
        }
        return s;
    }

    /** The least number of steps after which the row repeats, up to most; 0 if none. */
    private static int period(int[] s, int most) {
        for (int k = 1; k <= most; k++) {
            boolean same = true;
            for (int i = 0; i + k < s.length; i++) {
                same &= s[i] == s[i + k];
            }
            if (same) {
                return k;
            }
        }
        return 0;
    }

    // ---- shadows undone, by fractions

    /** A fraction in lowest terms, its lower number above 0. */
    private record Part(BigInteger up, BigInteger down) {
        static Part of(BigInteger up, BigInteger down) {
            BigInteger g = up.gcd(down).multiply(BigInteger.valueOf(down.signum()));
            return new Part(up.divide(g), down.divide(g));
        }

        static Part of(long v) {
            return new Part(BigInteger.valueOf(v), BigInteger.ONE);
        }

        Part less(Part o) {
            return of(up.multiply(o.down).subtract(o.up.multiply(down)), down.multiply(o.down));
        }

        Part times(Part o) {
            return of(up.multiply(o.up), down.multiply(o.down));
        }

        Part by(Part o) {
            return of(up.multiply(o.down), down.multiply(o.up));
        }

        boolean isZero() {
            return up.signum() == 0;
        }
    }

    /** Rows of the shadow's matrix for the places given, each with the rows of one beside. */
    private Part[][] shadows(List<Integer> places, boolean beside) {
        Part[][] rows = new Part[places.size()][n() + (beside ? places.size() : 0)];
        for (int r = 0; r < rows.length; r++) {
            for (int c = 0; c < rows[r].length; c++) {
                boolean one = c - n() == r;
                rows[r][c] = Part.of(c < n() ? mask.get(Math.floorMod(c - places.get(r), n()))
                        : one ? 1 : 0);
            }
        }
        return rows;
    }

    /** Gauss and Jordan over the first n columns; the columns that lead. */
    private List<Integer> reduce(Part[][] rows) {
        List<Integer> leads = new ArrayList<>();
        for (int c = 0; c < n(); c++) {
            int lead = leads.size();
            int found = lead;
            while (found < rows.length && rows[found][c].isZero()) {
                found++;
            }
            if (found >= rows.length) {
                continue;
            }
            Part[] kept = rows[found];
            rows[found] = rows[lead];
            rows[lead] = kept;
            Part first = kept[c];
            for (int j = 0; j < kept.length; j++) {
                kept[j] = kept[j].by(first);
            }
            for (int r = 0; r < rows.length; r++) {
                Part factor = rows[r][c];
                for (int j = 0; r != lead && j < kept.length; j++) {
                    rows[r][j] = rows[r][j].less(factor.times(kept[j]));
                }
            }
            leads.add(c);
        }
        return leads;
    }

    private List<Integer> allPlaces() {
        List<Integer> all = new ArrayList<>();
        for (int i = 0; i < n(); i++) {
            all.add(i);
        }
        return all;
    }

    /** b and behind it D, or null. */
    private List<BigInteger> inverse() {
        Part[][] rows = shadows(allPlaces(), true);
        if (reduce(rows).size() < n()) {
            return null;
        }
        BigInteger d = BigInteger.ONE;
        for (int j = 0; j < n(); j++) {
            BigInteger down = rows[0][n() + j].down();
            d = d.multiply(down).divide(d.gcd(down));
        }
        List<BigInteger> b = new ArrayList<>();
        for (int j = 0; j < n(); j++) {
            Part part = rows[0][n() + j];
            b.add(part.up().multiply(d).divide(part.down()));
        }
        b.add(d);
        return b;
    }

    private Long undoCall(String name, int[] v) {
        if (name.equals("back")) {
            return !place(v[0]) ? no(0, 1) : back == null ? no(0, 2) : back.get(v[0]).longValueExact();
        }
        if (name.equals("noise")) {
            return v[0] < 0 || v[0] > 1 ? no(0, 1) : back == null ? no(0, 2) : noise(v[0]);
        }
        if (n() > 14) {
            return no(-1, 1);
        }
        switch (name) {
            case "undo":
                back = inverse();
                return back == null ? 0L : back.get(n()).longValueExact();
            case "rank": return (long) reduce(shadows(allPlaces(), false)).size();
            case "lost": return lost();
            case "solve": return solve();
            case "sure": return sure();
            default: throw new IllegalArgumentException(name);
        }
    }

    private Long noise(int what) {
        BigInteger squares = BigInteger.ZERO;
        for (int j = 0; j < n(); j++) {
            squares = squares.add(back.get(j).multiply(back.get(j)));
        }
        Part part = Part.of(squares, back.get(n()).multiply(back.get(n())));
        return (what == 0 ? part.up() : part.down()).longValueExact();
    }

    private Long lost() {
        Part[][] rows = shadows(allPlaces(), false);
        List<Integer> leads = reduce(rows);
        if (leads.size() == n()) {
            return -1L;
        }
        int last = 0;
        while (leads.contains(last)) {
            last++;
        }
        BigInteger d = BigInteger.ONE;
        for (int r = 0; r < last; r++) {
            BigInteger down = rows[r][last].down();
            d = d.multiply(down).divide(d.gcd(down));
        }
        scene = zeros(n());
        for (int r = 0; r < last; r++) {
            scene.set(r, rows[r][last].up().multiply(d).divide(rows[r][last].down()).negate().intValueExact());
        }
        scene.set(last, d.intValueExact());
        return (long) last;
    }

    private Long solve() {
        if (readings.contains(null)) {
            return no(-1, 1);
        }
        List<BigInteger> b = inverse();
        if (b == null) {
            return 0L;
        }
        List<Integer> fresh = zeros(n());
        for (int s = 0; s < n(); s++) {
            BigInteger sum = BigInteger.ZERO;
            for (int j = 0; j < n(); j++) {
                sum = sum.add(b.get(j).multiply(BigInteger.valueOf(readings.get((s + j) % n()))));
            }
            BigInteger[] parts = sum.divideAndRemainder(b.get(n()));
            if (parts[1].signum() != 0 || parts[0].abs().compareTo(BigInteger.valueOf(1000)) > 0) {
                return -2L;
            }
            fresh.set(s, parts[0].intValueExact());
        }
        scene = fresh;
        return 1L;
    }

    private Long sure() {
        List<Integer> read = new ArrayList<>();
        for (int i = 0; i < n(); i++) {
            if (readings.get(i) != null) {
                read.add(i);
            }
        }
        return reduce(shadows(read, false)).size() == n() ? 1L : 0L;
    }

    // ---- points, by trying all

    private Long points(int miss) {
        told = new ArrayList<>();
        tryScene(-1, 0, -1, 0, miss);
        for (int a = 0; a < n(); a++) {
            for (int height = 1; height <= 9; height++) {
                tryScene(a, height, -1, 0, miss);
            }
        }
        for (int a = 0; a < n(); a++) {
            for (int height = 1; height <= 9; height++) {
                for (int b = a + 1; b < n(); b++) {
                    for (int other = 1; other <= 9; other++) {
                        tryScene(a, height, b, other, miss);
                    }
                }
            }
        }
        return (long) told.size();
    }

    private void tryScene(int a, int heightA, int b, int heightB, int miss) {
        for (int s = 0; s < n(); s++) {
            int shadow = (a < 0 ? 0 : heightA * mask.get((a - s + n()) % n()))
                    + (b < 0 ? 0 : heightB * mask.get((b - s + n()) % n()));
            if (readings.get(s) != null && Math.abs(shadow - readings.get(s)) > miss) {
                return;
            }
        }
        told.add(new int[] {a, heightA, b, heightB});
    }

    private Long point(int i, int what) {
        boolean there = i >= 0 && i < told.size() && i < 200 && what >= 0 && what <= 3;
        return there ? told.get(i)[what] : -1L;
    }

    // ---- tables

    private Long tableCall(String name, int[] v) {
        switch (name) {
            case "table": return table(v[0], v[1]);
            case "twice": return table == null ? no(-1, 2) : table.length > 16 ? no(-1, 3) : twice();
            case "sign": return table != null && rowOf(v[0]) && rowOf(v[1]) ? table[v[0]][v[1]] : 0L;
            default: break;
        }
        int last = name.equals("look") ? v[0] : v[1];
        if (table == null) {
            return no(0, 2);
        }
        if (!rowOf(v[0]) || !rowOf(last)) {
            return no(0, 1);
        }
        if (name.equals("swap")) {
            return swap(v[0], last);
        }
        long sum = 0;
        for (int j = 0; j < table.length; j++) {
            int other = name.equals("product") ? table[last][j] : j < n() ? scene.get(j) : 0;
            sum += table[v[0]][j] * other;
        }
        return sum;
    }

    private boolean rowOf(int i) {
        return i >= 0 && i < table.length;
    }

    private Long table(int kind, int k) {
        boolean doubled = kind == 0 && k >= 0 && k <= 5;
        if (!doubled && !(kind == 1 && in(k, 3, 7, 11, 19, 23, 31))) {
            return no(-1, 1);
        }
        int size = doubled ? 1 << k : k + 1;
        table = new int[size][size];
        for (int i = 0; i < size; i++) {
            for (int j = 0; j < size; j++) {
                boolean plus = doubled ? Integer.bitCount(i & j) % 2 == 0
                        : i == 0 || j == 0 || squares(k)[Math.floorMod(j - i, k)];
                table[i][j] = plus ? 1 : -1;
            }
        }
        return (long) size;
    }

    private Long twice() {
        int old = table.length;
        int[][] fresh = new int[2 * old][2 * old];
        for (int i = 0; i < 2 * old; i++) {
            for (int j = 0; j < 2 * old; j++) {
                fresh[i][j] = table[i % old][j % old] * (i >= old && j >= old ? -1 : 1);
            }
        }
        table = fresh;
        return 2L * old;
    }

    private Long swap(int a, int b) {
        int[] kept = table[a];
        table[a] = table[b];
        table[b] = kept;
        for (int j = 0; a == b && j < table.length; j++) {
            table[a][j] = -table[a][j];
        }
        return 1L;
    }
}
