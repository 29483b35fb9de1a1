import java.util.NoSuchElementException;

/** Calls told by their name and numbers: so one test makes the same calls on several objects. */
final class Calls {
    /** What answers calls: the class, or the plain model of it. Null where at() throws. */
    interface Answerer {
        Long call(String name, int... v);
    }

    private Calls() {
    }

    static Answerer of(HoleMask x) {
        return (name, v) -> {
            try {
                return call(x, name, v);
            } catch (NoSuchElementException e) {
                if (!name.equals("at")) {
                    throw e;
                }
                return null;
            }
        };
    }

    static Answerer of(PlainMask plain) {
        return (name, v) -> plain.call(name, v);
    }

    private static Long call(HoleMask x, String name, int[] v) {
        switch (name) {
            case "ring": return truth(x.ring(v[0]));
            case "sheet": return (long) x.sheet(v[0], v[1]);
            case "entry": return truth(x.entry(v[0], v[1]));
            case "lay": return truth(x.lay(v[0]));
            case "set": return truth(x.set(v[0], v[1], v[2]));
            case "miss": return truth(x.miss(v[0]));
            case "at": return (long) x.at(v[0], v[1]);
            case "count": return (long) x.count(v[0]);
            case "shadow": return (long) x.shadow(v[0]);
            case "cast": return truth(x.cast());
            case "meets": return (long) x.meets(v[0]);
            case "off": return (long) x.off();
            case "turn": return truth(x.turn(v[0]));
            case "anti": return truth(x.anti());
            case "fold": return (long) x.fold(v[0], v[1], v[2], v[3]);
            case "rests": return (long) x.rests(v[0]);
            case "twins": return (long) x.twins(v[0]);
            case "shift": return (long) x.shift(v[0]);
            default: return laterCall(x, name, v);
        }
    }

    private static Long laterCall(HoleMask x, String name, int[] v) {
        switch (name) {
            case "undo": return x.undo();
            case "back": return x.back(v[0]);
            case "noise": return x.noise(v[0]);
            case "rank": return (long) x.rank();
            case "lost": return (long) x.lost();
            case "solve": return (long) x.solve();
            case "sure": return (long) x.sure();
            case "points": return (long) x.points(v[0]);
            case "point": return (long) x.point(v[0], v[1]);
            case "table": return (long) x.table(v[0], v[1]);
            case "twice": return (long) x.twice();
            case "swap": return truth(x.swap(v[0], v[1]));
            case "sign": return (long) x.sign(v[0], v[1]);
            case "product": return (long) x.product(v[0], v[1]);
            case "look": return (long) x.look(v[0]);
            case "fault": return (long) x.fault();
            default: throw new IllegalArgumentException(name);
        }
    }

    private static Long truth(boolean answer) {
        return answer ? 1L : 0L;
    }
}
