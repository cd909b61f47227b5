import java.util.ArrayList;
import java.util.Arrays;
import java.util.HashMap;
import java.util.List;
import java.util.Map;

/**
 * Every state that she can come to in some halls (where she is, where things are, what is read), not drawn ones: in each
 * one every step, refused ones too, and what part 3 asks of ways. What is due comes from the document's steps alone:
 * minutes are made smaller along them until none gets smaller.
 */
public final class EveryStateTest {
    private static final int DOOR = -1, HER = -2, FAR = 100000;
    private static final int BAD = -1, STATE = -2, NONE = -9;
    /** Calls that are left to an object when it is given up for a new one. */
    private static final int LEAST_CALLS_LEFT = 110;

    private static final Checks c = new Checks();

    public static void main(String[] args) {
        new EveryStateTest(new int[][] {{0, 0}}, new int[] {0, 0}, 1, 4).play();
        for (int hands = 1; hands <= 2; hands++) {
            new EveryStateTest(new int[][] {{4, 4}, {4, 4}}, new int[] {0, 1}, hands, 12).play();
            new EveryStateTest(new int[][] {{3, 0}, {0, 0}, {3, 2}}, new int[] {2, 0, 1}, hands, 21).play();
            new EveryStateTest(new int[][] {{2, 0}, {5, 0}, {5, 4}, {0, 3}}, new int[] {3, 2}, hands, 40).play();
        }
        for (int hands = 1; hands <= 4; hands++) {
            new EveryStateTest(new int[][] {{0, 9}, {9, 9}}, new int[] {1, 0, 1, 1}, hands, 60).play();
        }
        new EveryStateTest(new int[][] {{1, 1}, {7, 2}, {1, 1}, {7, 8}}, new int[] {0, 2, 3, 1}, 2, 50).play();
        new EveryStateTest(new int[][] {{9, 9}, {0, 0}, {9, 0}, {0, 9}}, new int[] {3, 3, 0, 2}, 3, 77).play();
        c.end();
    }

    /** A step: 0 .. goes, 10 .. takes, 20 .. leaves, as the STEP of the document; where it leads, its minutes. */
    private record Step(int name, int then, int minutes) { }

    private record State(int at, List<Integer> where, int read, int cameFrom, int by, int minute) { }

    private final int[][] seats;
    private final int[] owner;
    private final int hands, ten;
    private final List<State> states = new ArrayList<>();
    private final List<List<Step>> steps = new ArrayList<>();
    private final Map<String, Integer> known = new HashMap<>();
    private final int[][] fewest = new int[5][];
    private MindsByTen x;
    private int callsLeft;

    private EveryStateTest(int[][] seats, int[] owner, int hands, int ten) {
        this.seats = seats;
        this.owner = owner;
        this.hands = hands;
        this.ten = ten;
    }

    private String text() {
        StringBuilder text = new StringBuilder();
        for (int[] seat : seats) text.append("s").append(seat[0]).append(' ').append(seat[1]).append(';');
        for (int o : owner) text.append("t").append(o).append(" 0 0 1;");
        return text.append("h").append(hands).append(";e").append(ten).append(';').toString();
    }

    private void play() {
        findStates();
        findFewest();
        for (int i = 0; i < states.size(); i++) {
            c.about(text() + " " + states.get(i));
            comeTo(i);
            ask(i);
            tryEveryStep(i);
        }
    }

    private int find(int at, List<Integer> where, int read, int from, int by, int minute) {
        String key = at + " " + where + " " + read;
        Integer old = known.get(key);
        if (old != null) return old;
        known.put(key, states.size());
        states.add(new State(at, where, read, from, by, minute));
        return states.size() - 1;
    }

    private void findStates() {
        List<Integer> home = new ArrayList<>();
        for (int o : owner) home.add(o);
        find(DOOR, home, 0, -1, -1, 0);
        for (int i = 0; i < states.size(); i++) steps.add(stepsFrom(i));
    }

    private List<Step> stepsFrom(int i) {
        State from = states.get(i);
        List<Step> all = new ArrayList<>();
        for (int s = 0; s < seats.length; s++) {
            int way = way(from.at, s);
            if (s != from.at) {
                all.add(new Step(s, find(s, from.where, from.read, i, s, from.minute + way), way));
            }
        }
        for (int t = 0; t < owner.length; t++) {
            if (from.at != DOOR && from.where.get(t) == from.at && held(from) < hands) {
                all.add(new Step(10 + t, moved(i, t, HER, from.read | 1 << t, 10 + t), 1));
            }
        }
        for (int t = 0; t < owner.length; t++) {
            if (from.at != DOOR && from.where.get(t) == HER) {
                all.add(new Step(20 + t, moved(i, t, from.at, from.read, 20 + t), 1));
            }
        }
        return all;
    }

    private int moved(int i, int t, int to, int read, int by) {
        List<Integer> where = new ArrayList<>(states.get(i).where);
        where.set(t, to);
        return find(states.get(i).at, where, read, i, by, states.get(i).minute + 1);
    }

    private int way(int from, int to) {
        int x = from == DOOR ? 0 : seats[from][0];
        int y = from == DOOR ? 0 : seats[from][1];
        return Math.abs(x - seats[to][0]) + Math.abs(y - seats[to][1]);
    }

    private static int held(State state) {
        int held = 0;
        for (int where : state.where) if (where == HER) held++;
        return held;
    }

    private boolean isBack(State state) {
        for (int t = 0; t < owner.length; t++) if (state.where.get(t) != owner[t]) return false;
        return true;
    }

    private void findFewest() {
        for (int n = 0; n <= owner.length; n++) {
            int[] f = new int[states.size()];
            for (int i = 0; i < f.length; i++) {
                State state = states.get(i);
                f[i] = isBack(state) && Integer.bitCount(state.read) >= n ? 0 : FAR;
            }
            boolean smaller = true;
            while (smaller) {
                smaller = false;
                for (int i = f.length - 1; i >= 0; i--) {
                    for (Step step : steps.get(i)) {
                        if (step.minutes + f[step.then] < f[i]) {
                            f[i] = step.minutes + f[step.then];
                            smaller = true;
                        }
                    }
                }
            }
            fewest[n] = f;
        }
    }

    /** The state by its own way from the first one; a new object when the old one has few calls left. */
    private void comeTo(int i) {
        List<Integer> way = new ArrayList<>();
        for (int at = i; at > 0; at = states.get(at).cameFrom) way.add(0, states.get(at).by);
        if (x == null || callsLeft < LEAST_CALLS_LEFT + way.size()) {
            x = Checks.in(text());
            callsLeft = 512 - text().length() - 2;
            x.keep(0);
        }
        c.due("again", x.again(0), 0);
        for (int step : way) c.holds("a way to it, " + step, done(step) >= 0);
        callsLeft -= way.size() + LEAST_CALLS_LEFT;
    }

    private int done(int step) {
        return step >= 20 ? x.leaves(step - 20) : step >= 10 ? x.takes(step - 10) : x.goes(step);
    }

    private void ask(int i) {
        State state = states.get(i);
        c.due("minute", x.now(0), state.minute);
        c.due("where", x.now(1), state.at == DOOR ? NONE : state.at);
        c.due("with her", x.now(2), bits(state, HER));
        c.due("read", x.now(4), state.read);
        for (int t = 0; t < owner.length; t++) {
            c.due("thing " + t, x.thing(t, 4), state.where.get(t) == HER ? NONE : state.where.get(t));
        }
        for (int s = 0; s < seats.length; s++) c.due("in " + s, x.seat(s, 2), bits(state, s));
        c.due("back", x.back(0), fewest[0][i]);
        c.due("step", x.back(1), firstStep(i));
        c.due("left", x.left(), ten - state.minute - fewest[0][i]);
        int see = NONE;
        for (int n = 0; n <= 4; n++) {
            c.due("seen by " + n, x.seenBy(n), n <= owner.length ? fewest[n][i] : NONE);
            if (n <= owner.length && state.minute + fewest[n][i] <= ten) see = n;
        }
        c.due("see", x.see(), see);
    }

    private static int bits(State state, int place) {
        int bits = 0;
        for (int t = 0; t < state.where.size(); t++) if (state.where.get(t) == place) bits |= 1 << t;
        return bits;
    }

    private int firstStep(int i) {
        if (isBack(states.get(i))) return NONE;
        for (Step step : steps.get(i)) {
            if (step.minutes + fewest[0][step.then] == fewest[0][i]) return step.name;
        }
        return BAD;
    }

    private void tryEveryStep(int i) {
        int[] then = new int[24];
        Arrays.fill(then, -1);
        int[] minutes = new int[24];
        for (Step step : steps.get(i)) {
            then[step.name] = step.then;
            minutes[step.name] = step.minutes;
        }
        int undone = x.now(5);
        for (int name = 0; name < 24; name++) {
            if (name % 10 >= 4) continue;
            boolean such = name < 10 ? name < seats.length : name % 10 < owner.length;
            int due = !such ? BAD : then[name] < 0 ? STATE : name < 10 ? minutes[name] : held(states.get(then[name]));
            c.due("step " + name, done(name), due);
            if (due < 0) continue;
            c.due("minute behind " + name, x.now(0), states.get(i).minute + minutes[name]);
            c.due("read behind " + name, x.now(4), states.get(then[name]).read);
            c.due("back behind " + name, x.back(0), fewest[0][then[name]]);
            c.due("undo " + name, x.undo(), Math.min(undone, 9));
            undone = Math.min(undone, 9);
        }
        c.due("as it was", x.now(0), states.get(i).minute);
    }
}
