import java.util.ArrayList;
import java.util.Arrays;
import java.util.HashMap;
import java.util.List;
import java.util.Map;
import java.util.PriorityQueue;

/**
 * The document once more, written another way: ways are looked for forward from NOW over all that she can do, with no
 * table kept, and what is read is kept beside where things are. For tests alone; it may be slow and use the library.
 */
final class Model {
    static final int BAD = -1, STATE = -2, FULL = -3, NONE = -9, NO = -1000000;
    private static final int HER = -2, NOWHERE = -1;

    private record Token(int place, char kind, int value) { }

    private record Now(int minute, int at, List<Integer> where, int read) { }

    private final StringBuilder text = new StringBuilder();
    private List<int[]> seats = new ArrayList<>();
    private List<int[]> things = new ArrayList<>();
    private int hands = 2, ten = 60;
    private Now now = new Now(0, NOWHERE, List.of(), 0);
    private final List<Now> undos = new ArrayList<>();
    private final Now[] images = new Now[2];
    private final List<Integer> felts = new ArrayList<>();
    private final List<int[]> tolds = new ArrayList<>();
    private long trace = 0;

    /** One call by its name; arguments that it has not are not looked at. */
    long call(String name, int a, int b, int c) {
        switch (name) {
            case "type": return type(a);
            case "clear": { int n = text.length(); text.setLength(0); return n; }
            case "hall": return hall();
            case "seat": return seat(a, b);
            case "thing": return thing(a, b);
            case "now": return now(a);
            case "goes": return goes(a);
            case "takes": return takes(a);
            case "leaves": return leaves(a);
            case "encores": return encores(a);
            case "undo": return undo();
            case "back": return a == 0 ? fewest(now)[0] : a == 1 ? step() : BAD;
            case "left": return ten - now.minute - fewest(now)[0];
            case "see": return see();
            case "seenBy": return a < 0 || a > 4 ? BAD : a > things.size() ? NONE : fewest(now)[a];
            case "odds": return odds(a, b, c);
            case "knows": return knows(a);
            case "felt": return felt(a);
            case "whose": return whose(a);
            case "tells": return tells(a, b, c);
            case "fits": return fits();
            case "forget": { int n = felts.size() + tolds.size(); felts.clear(); tolds.clear(); return n; }
            case "rate": return rate(a, b);
            case "keep": return keep(a);
            case "again": return again(a);
            case "count": return count(a);
            case "trace": return trace;
            default: throw new IllegalArgumentException(name);
        }
    }

    private int type(int letter) {
        if (letter < 0 || letter > 255) return BAD;
        if (text.length() == 150) return FULL;
        text.append((char) letter);
        return text.length();
    }

    private List<Token> tokens() {
        List<Token> all = new ArrayList<>();
        java.util.regex.Matcher m = java.util.regex.Pattern.compile("[0-9]+|[^ ]", java.util.regex.Pattern.DOTALL).matcher(text);
        while (m.find()) {
            String word = m.group();
            if (word.matches("0|[1-9][0-9]{0,2}") && Integer.parseInt(word) <= 200) {
                all.add(new Token(m.start(), 'n', Integer.parseInt(word)));
            } else {
                char kind = "sthe;".contains(word) ? word.charAt(0) : '?';
                all.add(new Token(m.start(), kind, 0));
            }
        }
        all.add(new Token(text.length(), '$', 0));
        return all;
    }

    private int hall() {
        List<int[]> newSeats = new ArrayList<>();
        List<int[]> newThings = new ArrayList<>();
        int[] newHands = {0};
        int[] newTen = {0};
        List<Token> tokens = tokens();
        int i = 0;
        int items = 0;
        while (tokens.get(i).kind != '$') {
            Token head = tokens.get(i);
            boolean stands = head.kind == 's' && newSeats.size() < 4 || head.kind == 't' && newThings.size() < 4
                || head.kind == 'h' && newHands[0] == 0 || head.kind == 'e' && newTen[0] == 0;
            if (!stands) return -10 - head.place;
            int[][] ranges = head.kind == 's' ? new int[][] {{0, 9}, {0, 9}}
                : head.kind == 't' ? new int[][] {{0, newSeats.size() - 1}, {0, 31}, {0, 5}, {0, 5}}
                : head.kind == 'h' ? new int[][] {{1, 4}} : new int[][] {{1, 200}};
            int[] values = new int[ranges.length];
            for (int j = 0; j < ranges.length; j++) {
                Token number = tokens.get(++i);
                boolean fine = number.kind == 'n' && number.value >= ranges[j][0] && number.value <= ranges[j][1]
                    && !(j == 3 && number.value == values[2]);
                if (!fine) return -10 - number.place;
                values[j] = number.value;
            }
            Token end = tokens.get(++i);
            if (end.kind != ';') return -10 - end.place;
            i++;
            items++;
            switch (head.kind) {
                case 's': newSeats.add(values); break;
                case 't': newThings.add(values); break;
                case 'h': newHands = values; break;
                default: newTen = values;
            }
        }
        seats = newSeats;
        things = newThings;
        hands = newHands[0] == 0 ? 2 : newHands[0];
        ten = newTen[0] == 0 ? 60 : newTen[0];
        text.setLength(0);
        List<Integer> home = new ArrayList<>();
        for (int[] t : things) home.add(t[0]);
        now = new Now(0, NOWHERE, home, 0);
        undos.clear();
        felts.clear();
        tolds.clear();
        Arrays.fill(images, null);
        return items;
    }

    private int way(int from, int to) {
        int[] a = from == NOWHERE ? new int[] {0, 0} : seats.get(from);
        int[] b = seats.get(to);
        return Math.abs(a[0] - b[0]) + Math.abs(a[1] - b[1]);
    }

    private boolean isSeat(int s) {
        return s >= 0 && s < seats.size();
    }

    private boolean isThing(int t) {
        return t >= 0 && t < things.size();
    }

    private int bits(int place) {
        int bits = 0;
        for (int t = 0; t < things.size(); t++) if (now.where.get(t) == place) bits |= 1 << t;
        return bits;
    }

    private int strays() {
        int bits = 0;
        for (int t = 0; t < things.size(); t++) if (now.where.get(t) != things.get(t)[0]) bits |= 1 << t;
        return bits;
    }

    private int seat(int s, int what) {
        if (!isSeat(s) || what < 0 || what > 3) return BAD;
        return what < 2 ? seats.get(s)[what] : what == 2 ? bits(s) : way(now.at, s);
    }

    private int thing(int t, int what) {
        if (!isThing(t) || what < 0 || what > 5) return BAD;
        if (what < 4) return things.get(t)[what];
        if (what == 5) return now.read >> t & 1;
        return now.where.get(t) == HER ? NONE : now.where.get(t);
    }

    private int now(int what) {
        switch (what) {
            case 0: return now.minute;
            case 1: return now.at == NOWHERE ? NONE : now.at;
            case 2: return bits(HER);
            case 3: return strays();
            case 4: return now.read;
            case 5: return undos.size();
            default: return BAD;
        }
    }

    private Now gone(Now from, int s) {
        if (s == from.at) return null;
        return new Now(from.minute + way(from.at, s), s, from.where, from.read);
    }

    private Now taken(Now from, int t) {
        long held = from.where.stream().filter(w -> w == HER).count();
        if (from.at == NOWHERE || from.where.get(t) != from.at || held >= hands) return null;
        List<Integer> where = new ArrayList<>(from.where);
        where.set(t, HER);
        return new Now(from.minute + 1, from.at, where, from.read | 1 << t);
    }

    private Now left(Now from, int t) {
        if (from.at == NOWHERE || from.where.get(t) != HER) return null;
        List<Integer> where = new ArrayList<>(from.where);
        where.set(t, from.at);
        return new Now(from.minute + 1, from.at, where, from.read);
    }

    private boolean become(Now then) {
        if (then == null || then.minute > 999) return false;
        undos.add(now);
        if (undos.size() > 10) undos.remove(0);
        now = then;
        return true;
    }

    private int goes(int s) {
        if (!isSeat(s)) return BAD;
        int before = now.minute;
        return become(gone(now, s)) ? now.minute - before : STATE;
    }

    private int takes(int t) {
        if (!isThing(t)) return BAD;
        return become(taken(now, t)) ? Integer.bitCount(bits(HER)) : STATE;
    }

    private int leaves(int t) {
        if (!isThing(t)) return BAD;
        return become(left(now, t)) ? Integer.bitCount(bits(HER)) : STATE;
    }

    private int encores(int n) {
        if (n < 1 || n > 30) return BAD;
        return become(new Now(now.minute + n, now.at, now.where, now.read)) ? now.minute : STATE;
    }

    private int undo() {
        if (undos.isEmpty()) return STATE;
        now = undos.remove(undos.size() - 1);
        return undos.size();
    }

    private List<Now> nexts(Now from) {
        List<Now> all = new ArrayList<>();
        for (int s = 0; s < seats.size(); s++) all.add(gone(from, s));
        for (int t = 0; t < things.size(); t++) all.add(taken(from, t));
        for (int t = 0; t < things.size(); t++) all.add(left(from, t));
        return all;
    }

    private long key(Now n) {
        long key = n.at + 1;
        for (int w : n.where) key = key * 8 + w + 2;
        return key * 16 + n.read;
    }

    /** The fewest minutes from there by which 0, 1 .. all are read and all are back. */
    private int[] fewest(Now from) {
        int[] found = new int[things.size() + 1];
        Arrays.fill(found, Integer.MAX_VALUE);
        int open = found.length;
        Map<Long, Integer> settled = new HashMap<>();
        PriorityQueue<Now> waiting = new PriorityQueue<>((a, b) -> a.minute - b.minute);
        waiting.add(from);
        while (open > 0) {
            Now n = waiting.remove();
            if (settled.putIfAbsent(key(n), n.minute) != null) continue;
            boolean home = true;
            for (int t = 0; t < things.size(); t++) home &= n.where.get(t) == things.get(t)[0];
            for (int k = 0; home && k <= Integer.bitCount(n.read); k++) {
                if (found[k] == Integer.MAX_VALUE) {
                    found[k] = n.minute - from.minute;
                    open--;
                }
            }
            for (Now next : nexts(n)) if (next != null && !settled.containsKey(key(next))) waiting.add(next);
        }
        return found;
    }

    private int step() {
        int best = fewest(now)[0];
        if (best == 0) return NONE;
        List<Now> all = nexts(now);
        for (int i = 0; i < all.size(); i++) {
            Now next = all.get(i);
            if (next != null && next.minute - now.minute + fewest(next)[0] == best) {
                int s = seats.size();
                int t = things.size();
                return i < s ? i : i < s + t ? 10 + i - s : 20 + i - s - t;
            }
        }
        throw new IllegalStateException("no step");
    }

    private int see() {
        int[] found = fewest(now);
        int most = NONE;
        for (int n = 0; n < found.length; n++) if (now.minute + found[n] <= ten) most = n;
        return most;
    }

    private int odds(int x, int k, int what) {
        if (x < 0 || x > 10 || k < 0 || k > 4 || what < 0 || what > 1) return BAD;
        int n = Integer.bitCount(strays());
        // every one of 10^n outcomes is counted
        int all = (int) Math.pow(10, n);
        int some = 0;
        for (int o = 0; o < all; o++) {
            int stay = 0;
            for (int i = 0, rest = o; i < n; i++, rest /= 10) if (rest % 10 < x) stay++;
            if (stay <= k) some++;
        }
        int gcd = java.math.BigInteger.valueOf(some).gcd(java.math.BigInteger.valueOf(all)).intValue();
        return (what == 0 ? some : all) / gcd;
    }

    private int knows(int what) {
        if (what < 0 || what > 2) return BAD;
        boolean[][] joined = new boolean[6][6];
        boolean[][] alone = new boolean[6][6];
        for (int t = 0; t < things.size(); t++) {
            if ((now.read >> t & 1) == 0) continue;
            int a = things.get(t)[2];
            int b = things.get(t)[3];
            joined[a][b] = joined[b][a] = alone[a][b] = alone[b][a] = true;
        }
        for (int m = 0; m < 6; m++)
            for (int a = 0; a < 6; a++)
                for (int b = 0; b < 6; b++) if (joined[a][m] && joined[m][b]) joined[a][b] = true;
        int twos = 0;
        int fresh = 0;
        int most = 1;
        for (int a = 0; a < 6; a++) {
            int with = 1;
            for (int b = 0; b < 6; b++) {
                if (a == b || !joined[a][b]) continue;
                with++;
                if (a < b) twos++;
                if (a < b && !alone[a][b]) fresh++;
            }
            most = Math.max(most, with);
        }
        return what == 0 ? twos : what == 1 ? fresh : most;
    }

    private int felt(int marks) {
        if (marks < 0 || marks > 31) return BAD;
        if (felts.size() == 6) return FULL;
        felts.add(marks);
        return felts.size();
    }

    private void assign(List<Integer> row, List<List<Integer>> all) {
        if (row.size() == felts.size()) {
            all.add(new ArrayList<>(row));
            return;
        }
        for (int t = 0; t < things.size(); t++) {
            if (row.contains(t) || Integer.bitCount(things.get(t)[1] ^ felts.get(row.size())) > 1) continue;
            row.add(t);
            assign(row, all);
            row.remove(row.size() - 1);
        }
    }

    private int whose(int i) {
        if (i < -1 || i >= felts.size()) return BAD;
        List<List<Integer>> all = new ArrayList<>();
        assign(new ArrayList<>(), all);
        if (i == -1) return all.size();
        if (all.isEmpty()) return NONE;
        for (List<Integer> row : all) if (!row.get(i).equals(all.get(0).get(i))) return NONE;
        return all.get(0).get(i);
    }

    private int tells(int t, int from, int to) {
        if (!isThing(t) || !isSeat(from) || !isSeat(to) || from == to) return BAD;
        if (tolds.size() == 6) return FULL;
        tolds.add(new int[] {t, from, to});
        return tolds.size();
    }

    private int fits() {
        int bits = 7;
        for (int[] told : tolds) {
            if (things.get(told[0])[0] != told[2]) bits &= ~1;
            for (int s = 0; s < seats.size(); s++) {
                int to = way(told[1], told[2]);
                int other = way(told[1], s);
                if (s != told[1] && (other < to || other == to && s < told[2])) bits &= ~2;
            }
            if ((told[1] + 1) % seats.size() != told[2]) bits &= ~4;
        }
        return bits;
    }

    private int rate(int kind, int t) {
        if (kind < 0 || kind > 5 || !isThing(t)) return NO;
        int[] thing = things.get(t);
        int marks = Integer.bitCount(thing[1]);
        int at = now.where.get(t) == HER ? now.at : now.where.get(t);
        int comb = marks + way(at, thing[0]);
        int room = marks - thing[2] - thing[3];
        trace += new int[] {1, 11, 101, 1011, 10101, 100001}[kind];
        return new int[] {marks, comb, room, 2 * comb, room + t, marks + now.minute}[kind];
    }

    private int keep(int image) {
        if (image < 0 || image > 1) return BAD;
        images[image] = now;
        return now.minute;
    }

    private int again(int image) {
        if (image < 0 || image > 1) return BAD;
        if (images[image] == null) return STATE;
        now = images[image];
        undos.clear();
        return now.minute;
    }

    private int count(int what) {
        int[] counts = {seats.size(), things.size(), hands, ten, felts.size(), tolds.size(), text.length()};
        return what < 0 || what > 6 ? BAD : counts[what];
    }
}
