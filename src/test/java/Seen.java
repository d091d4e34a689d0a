import java.util.ArrayList;
import java.util.List;

/** What can be seen of an object from outside, to tell whether a call changed anything. */
final class Seen {
    private Seen() {
    }

    /** All answers that tell of the state: not the text, nor the history, nor the snapshot. 124 calls. */
    static List<Integer> state(FlameGuards x) {
        List<Integer> seen = new ArrayList<>();
        for (int burner = 0; burner < 4; burner++) {
            for (int what = 0; what <= 11; what++) {
                seen.add(x.burner(burner, what));
            }
        }
        for (int which = 0; which < 4; which++) {
            seen.add(x.setting(which));
        }
        for (int place = 0; place <= 12; place++) {
            seen.add(x.entry(place, 0));
            seen.add(x.entry(place, 1));
        }
        for (int back = 0; back <= 10; back++) {
            seen.add(x.event(back, 0));
            seen.add(x.event(back, 1));
            seen.add(x.event(back, 2));
        }
        for (int what = 0; what <= 12; what++) {
            seen.add(x.count(what));
        }
        return seen;
    }

    /** The state, and the sizes of history and text. */
    static List<Integer> all(FlameGuards x) {
        List<Integer> seen = state(x);
        seen.add(x.count(13));
        seen.add(x.count(14));
        return seen;
    }

    /** What the latest state of the history holds. */
    static List<Integer> behindUndo(FlameGuards x) {
        int answer = x.undo();
        List<Integer> seen = all(x);
        seen.add(answer);
        return seen;
    }

    /** What the snapshot holds. */
    static List<Integer> behindRestore(FlameGuards x) {
        int answer = x.restore();
        List<Integer> seen = all(x);
        seen.add(answer);
        return seen;
    }

    /** What the text holds. */
    static List<Integer> behindReadPlan(FlameGuards x) {
        int answer = x.readPlan();
        List<Integer> seen = all(x);
        seen.add(answer);
        return seen;
    }
}
