import java.util.Arrays;

/** The terms of the document by their own words: sums written out, and all choices tried. */
public final class TermTest {
    private static final int SMALL = 5;
    private static final int MOST = 14;
    /** Of a ring of up to five places no number that is lost is greater. */
    private static final int LOST_MOST = 2;
    private static final Checks C = new Checks();
    private static long seed = 35;

    public static void main(String[] args) {
        for (int run = 0; run < 200; run++) {
            shadowsAndMeetings(run < 60 ? run + 1 : 1 + below(60));
        }
        for (int n = 1, masks = 3; n <= SMALL; n++, masks *= 3) {
            for (int code = 0; code < masks; code++) {
                everyMask(digits(code, n, 3, 1));
            }
        }
        for (int run = 0; run < 400; run++) {
            largerMask(6 + below(MOST - 5), below(3));
        }
        for (int r = 2; r <= 5; r++) {
            shiftRows(r);
        }
        roundMasks();
        C.finish();
    }

    private static int below(int bound) {
        seed = seed * 6364136223846793005L + 1442695040888963407L;
        return (int) Math.floorMod(seed >>> 33, (long) bound);
    }

    /** The digits of a code, each less an offset. */
    private static int[] digits(int code, int n, int base, int offset) {
        int[] row = new int[n];
        for (int i = 0, rest = code; i < n; i++, rest /= base) {
            row[i] = rest % base - offset;
        }
        return row;
    }

    private static HoleMask with(int[] mask) {
        HoleMask x = new HoleMask();
        C.due("ring", x.ring(mask.length), true);
        for (int i = 0; i < mask.length; i++) {
            C.due("set", x.set(0, i, mask[i]), true);
        }
        return x;
    }

    private static void scene(HoleMask x, int[] scene) {
        for (int i = 0; i < scene.length; i++) {
            C.due("set", x.set(1, i, scene[i]), true);
        }
    }

    /** The sum over all i of mask(i) * row(s + i). */
    private static int sum(int[] mask, int[] row, int s) {
        int sum = 0;
        for (int i = 0; i < mask.length; i++) {
            sum += mask[i] * row[(s + i) % mask.length];
        }
        return sum;
    }

    private static int[] random(int n, int most) {
        int[] row = new int[n];
        for (int i = 0; i < n; i++) {
            row[i] = below(2 * most + 1) - most;
        }
        return row;
    }

    private static void shadowsAndMeetings(int n) {
        int[] mask = random(n, 1);
        int[] numbers = random(n, 1000);
        HoleMask x = with(mask);
        scene(x, numbers);
        String of = Arrays.toString(mask) + " ";
        int least = -1;
        for (int k = 0; k < n; k++) {
            C.due(of + "shadow", x.shadow(k), sum(mask, numbers, k));
            C.due(of + "meets", x.meets(k), sum(mask, mask, k));
            if (k > 1 && least < 0 && sum(mask, mask, k) != sum(mask, mask, 1)) {
                least = k;
            }
        }
        C.due(of + "off", x.off(), least);
        C.due(of + "count(4)", x.count(4), least < 0 ? 1 : 0);
        x.cast();
        for (int s = 0; s < n; s++) {
            C.due(of + "at(2, s)", x.at(2, s), sum(mask, numbers, s));
        }
    }

    private static void everyMask(int[] mask) {
        int n = mask.length;
        int rank = freePlaces(mask);
        HoleMask x = with(mask);
        String of = Arrays.toString(mask) + " ";
        C.due(of + "rank", x.rank(), rank);
        C.due(of + "sure", x.sure(), rank == n ? 1 : 0);
        C.due(of + "can be undone", x.undo() != 0, rank == n);
        if (rank == n) {
            C.due(of + "lost", x.lost(), -1);
            isBack(x, mask);
        } else {
            C.due(of + "back", x.back(0), 0);
            isLost(x, mask);
        }
    }

    /** The most places whose shadows are free of one another, of all choices of places. */
    private static int freePlaces(int[] mask) {
        int n = mask.length;
        int most = 0;
        for (int places = 1; places < 1 << n; places++) {
            int size = Integer.bitCount(places);
            for (int columns = 1; size > most && columns < 1 << n; columns++) {
                if (Integer.bitCount(columns) == size && minor(mask, places, columns) != 0) {
                    most = size;
                }
            }
        }
        return most;
    }

    /** The determinant of some rows and columns of the shadow's matrix, along its first row. */
    private static int minor(int[] mask, int places, int columns) {
        if (places == 0) {
            return 1;
        }
        int n = mask.length;
        int s = Integer.numberOfTrailingZeros(places);
        int sum = 0;
        int sign = 1;
        for (int c = 0; c < n; c++) {
            if ((columns >> c & 1) == 1) {
                int share = mask[(c - s + n) % n];
                sum += sign * share * (share == 0 ? 0 : minor(mask, places & places - 1, columns & ~(1 << c)));
                sign = -sign;
            }
        }
        return sum;
    }

    private static long divisor(long a, long b) {
        return b == 0 ? Math.abs(a) : divisor(b, a % b);
    }

    /** D times each scene that is 1 at one place comes back from its shadow; so does any scene. */
    private static void isBack(HoleMask x, int[] mask) {
        int n = mask.length;
        String of = Arrays.toString(mask) + " ";
        long d = x.undo();
        long common = d;
        long squares = 0;
        long[] b = new long[n];
        for (int j = 0; j < n; j++) {
            b[j] = x.back(j);
            common = divisor(common, b[j]);
            squares += b[j] * b[j];
        }
        C.due(of + "D is above 0", d > 0, true);
        C.due(of + "the divisor of all", common, 1);
        for (int place = 0; place < n; place++) {
            int[] one = new int[n];
            one[place] = 1;
            for (int s = 0; s < n; s++) {
                long sum = 0;
                for (int j = 0; j < n; j++) {
                    sum += b[j] * sum(mask, one, (s + j) % n);
                }
                C.due(of + "the scene at " + s, sum, s == place ? d : 0);
            }
        }
        C.due(of + "noise", x.noise(0) * d * d, squares * x.noise(1));
        C.due(of + "noise in lowest terms", divisor(x.noise(0), x.noise(1)), 1);
        C.due(of + "noise below is above 0", x.noise(1) > 0, true);
    }

    private static boolean dark(int[] mask, int[] scene) {
        for (int s = 0; s < mask.length; s++) {
            if (sum(mask, scene, s) != 0) {
                return false;
            }
        }
        return true;
    }

    private static int last(int[] scene) {
        int last = scene.length - 1;
        while (last >= 0 && scene[last] == 0) {
            last--;
        }
        return last;
    }

    /** What is lost has no shadow, and of all scenes of small numbers none ends sooner. */
    private static void isLost(HoleMask x, int[] mask) {
        int n = mask.length;
        String of = Arrays.toString(mask) + " ";
        int base = 2 * LOST_MOST + 1;
        int least = n;
        for (int code = 0; code < (int) Math.pow(base, n); code++) {
            int[] scene = digits(code, n, base, LOST_MOST);
            if (last(scene) >= 0 && last(scene) < least && dark(mask, scene)) {
                least = last(scene);
            }
        }
        C.due(of + "lost", x.lost(), least);
        isDarkScene(x, mask, least);
    }

    private static void isDarkScene(HoleMask x, int[] mask, int least) {
        String of = Arrays.toString(mask) + " ";
        int[] scene = new int[mask.length];
        long common = 0;
        for (int i = 0; i < mask.length; i++) {
            scene[i] = x.at(1, i);
            common = divisor(common, scene[i]);
        }
        C.due(of + "what is lost ends there", last(scene), least);
        C.due(of + "above 0 there", scene[least] > 0, true);
        C.due(of + "the divisor of what is lost", common, 1);
        C.due(of + "what is lost has no shadow", dark(mask, scene), true);
    }

    /** kinds 0: holes and stops, 1: 1 and -1, 2: all three. */
    private static void largerMask(int n, int kinds) {
        int[] mask = new int[n];
        for (int i = 0; i < n; i++) {
            mask[i] = kinds == 0 ? below(2) : kinds == 1 ? 2 * below(2) - 1 : below(3) - 1;
        }
        HoleMask x = with(mask);
        String of = Arrays.toString(mask) + " ";
        if (x.undo() == 0) {
            C.due(of + "rank", x.rank() < n, true);
            int ends = x.lost();
            C.due(of + "lost ends at the rank", ends, x.rank());
            isDarkScene(x, mask, ends);
            return;
        }
        isBack(x, mask);
        C.due(of + "rank", x.rank(), n);
        int[] numbers = random(n, 1000);
        scene(x, numbers);
        x.cast();
        scene(x, new int[n]);
        C.due(of + "solve", x.solve(), 1);
        C.row(x, 1, numbers);
    }

    /** All rows of all odd T, each written out for three rounds. */
    private static void shiftRows(int r) {
        int n = (1 << r) - 1;
        int least = -1;
        int[] row = null;
        for (int t = (1 << r) - 1; t > 0; t -= 2) {
            int[] s = new int[3 * n];
            s[r - 1] = 1;
            for (int i = 0; i + r < s.length; i++) {
                int ones = 0;
                for (int j = 0; j < r; j++) {
                    ones += (t >> j & 1) == 1 ? s[i + j] : 0;
                }
                s[i + r] = ones % 2;
            }
            if (comesRound(s, n)) {
                least = t;
                row = s;
            }
        }
        HoleMask x = new HoleMask();
        C.due("shift(" + r + ")", x.shift(r), least);
        C.row(x, 0, Arrays.copyOf(row, n));
    }

    private static boolean comesRound(int[] s, int n) {
        for (int k = 1; k <= n; k++) {
            boolean same = true;
            for (int i = 0; i + k < s.length; i++) {
                same = same && s[i] == s[i + k];
            }
            if (same) {
                return k == n;
            }
        }
        return false;
    }

    /** Masks that are made meet alike, as many times as their holes ask for. */
    private static void roundMasks() {
        for (int p : new int[] {3, 7, 11, 19, 23, 31, 43, 47, 59}) {
            HoleMask x = new HoleMask();
            isRound(x, "rests(" + p + ")", x.rests(p), p);
        }
        for (int p : new int[] {3, 5}) {
            HoleMask x = new HoleMask();
            isRound(x, "twins(" + p + ")", x.twins(p), p * (p + 2));
        }
        for (int r = 2; r <= 5; r++) {
            HoleMask x = new HoleMask();
            x.shift(r);
            isRound(x, "shift(" + r + ")", x.count(1), (1 << r) - 1);
        }
    }

    private static void isRound(HoleMask x, String made, int holes, int n) {
        C.due(made + " count(0)", x.count(0), n);
        C.due(made + " count(1)", x.count(1), holes);
        C.due(made + " count(4)", x.count(4), 1);
        for (int k = 1; k < n; k++) {
            C.due(made + " meets(" + k + ")", x.meets(k), holes * (holes - 1) / (n - 1));
        }
    }
}
