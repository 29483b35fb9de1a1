import java.util.ArrayList;
import java.util.List;

/**
 * All that calls can show of an object. Looking at the sheet uses it up, and an object is good for 512
 * calls, so each look makes the object anew by the same calls.
 */
final class State {
    private static final int ROWS_A_LOOK = 8;
    private static final int SCENES_A_LOOK = 60;
    /** Bytes, shorts and ints keep unlike numbers of it. */
    private static final int TELLS_KIND = 40000;

    private final String title;
    private final String text;
    private final List<Long> seen = new ArrayList<>();
    private Script object;

    private State(String title, String text) {
        this.title = title;
        this.text = text;
    }

    /** What the calls of the text leave, but for the fault. */
    static List<Long> after(String title, String text) {
        State state = new State(title, text);
        state.ringAndBack();
        state.table();
        state.points();
        state.sheet();
        return state.seen;
    }

    private void renew() {
        object = new Script(new Checks(), title, Calls.of(new HoleMask())).run(text);
    }

    private long see(String name, int... v) {
        Long answer = object.make(name, v);
        seen.add(answer);
        return answer == null ? 0 : answer;
    }

    private void ringAndBack() {
        renew();
        for (int what = 0; what <= 7; what++) {
            see("count", what);
        }
        long n = object.make("count", 0);
        for (int i = 0; i < n; i++) {
            for (int what = 0; what < 3; what++) {
                see("at", what, i);
            }
            see("back", i);
        }
        see("noise", 0);
        see("noise", 1);
    }

    private void table() {
        long size = object.make("count", 5);
        for (int i = 0; i < size; i++) {
            if (i % ROWS_A_LOOK == 0) {
                renew();
            }
            for (int j = 0; j < size; j++) {
                see("sign", i, j);
            }
        }
    }

    private void points() {
        renew();
        long told = Math.min(200, object.make("count", 7));
        for (int i = 0; i <= told; i++) {
            if (i % SCENES_A_LOOK == 0) {
                renew();
            }
            for (int what = 0; what < 4; what++) {
                see("point", i, what);
            }
        }
    }

    private void sheet() {
        renew();
        object.make("ring", 60);
        see("lay", 2);
        for (int i = 0; i < 60; i++) {
            see("at", 2, i);
        }
        renew();
        object.make("ring", 60);
        see("entry", 0, TELLS_KIND);
        see("lay", 2);
        see("at", 2, 0);
    }
}
