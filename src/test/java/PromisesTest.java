/** For each promise of the document: ordinary calls, the edges that it names, wrong calls. */
public final class PromisesTest {
    private static final int BAD = -1, STATE = -2, FULL = -3, NONE = -9, NO = -1000000;
    private static final int[] FAR_OFF = {Integer.MIN_VALUE, -1000, 1000, Integer.MAX_VALUE};
    /** Seats 0 (2,0), 1 (5,0), 2 (5,4), 3 (0,3). */
    private static final String SEATS = "s2 0;s5 0;s5 4;s0 3;";
    private static final String HALL = SEATS + "t0 3 0 1;t1 5 1 2;t2 24 3 4;t0 7 2 5;h2;e40;";

    private static final Checks c = new Checks();

    public static void main(String[] args) {
        newObject();
        type();
        clear();
        hall();
        hallFaults();
        hallAnew();
        seat();
        thing();
        now();
        goes();
        takes();
        leaves();
        encores();
        undo();
        back();
        backSteps();
        left();
        see();
        seenBy();
        odds();
        knows();
        felt();
        whose();
        tells();
        fits();
        forget();
        rate();
        keep();
        again();
        count();
        trace();
        c.end();
    }

    private static void newObject() {
        c.about("promise 1");
        MindsByTen x = new MindsByTen();
        int[] counts = {0, 0, 2, 60, 0, 0, 0};
        for (int what = 0; what < counts.length; what++) {
            c.due("count " + what, x.count(what), counts[what]);
        }
        int[] nows = {0, NONE, 0, 0, 0, 0};
        for (int what = 0; what < nows.length; what++) {
            c.due("now " + what, x.now(what), nows[what]);
        }
        c.due("trace", x.trace(), 0);
        c.due("undo", x.undo(), STATE);
        c.due("again 0", x.again(0), STATE);
        c.due("again 1", x.again(1), STATE);
        c.due("back 0", x.back(0), 0);
        c.due("back 1", x.back(1), NONE);
        c.due("left", x.left(), 60);
        c.due("see", x.see(), 0);
        c.due("BAD", MindsByTen.BAD, BAD);
        c.due("STATE", MindsByTen.STATE, STATE);
        c.due("FULL", MindsByTen.FULL, FULL);
        c.due("NONE", MindsByTen.NONE, NONE);
        c.due("NO", MindsByTen.NO, NO);
    }

    private static void type() {
        c.about("promise 2");
        MindsByTen x = new MindsByTen();
        c.due("below", x.type(-1), BAD);
        c.due("above", x.type(256), BAD);
        for (int n : FAR_OFF) {
            c.due("far off", x.type(n), BAD);
        }
        c.due("lowest", x.type(0), 1);
        c.due("highest", x.type(255), 2);
        for (int i = 3; i <= 150; i++) {
            c.due("letter " + i, x.type(' '), i);
        }
        c.due("151st", x.type(' '), FULL);
        c.due("151st, bad", x.type(256), BAD);
        c.due("letters", x.count(6), 150);
    }

    private static void clear() {
        c.about("promise 3");
        MindsByTen x = new MindsByTen();
        c.due("empty", x.clear(), 0);
        Checks.tell(x, "s1 1;");
        c.due("five", x.clear(), 5);
        c.due("letters", x.count(6), 0);
        c.due("hall", x.hall(), 0);
        c.due("seats", x.count(0), 0);
        for (int i = 0; i < 150; i++) {
            x.type(' ');
        }
        c.due("full", x.clear(), 150);
        c.due("type", x.type('s'), 1);
    }

    private static void hall() {
        c.about("promise 4");
        c.due("no items", Checks.told(""), 0);
        c.due("blanks", Checks.told("    "), 0);
        c.due("one", Checks.told("s0 0;"), 1);
        c.due("all", Checks.told(HALL), 10);
        c.due("blanks all over", Checks.told("  s  9   9 ;  t 0 31 5 0 ; h 4 ; e 200 ;  "), 4);
        c.due("no blanks", Checks.told("s0 9;t0 0 0 1;h1;e1;"), 4);
        c.due("any order", Checks.told("e7;h3;s1 2;t0 1 2 3;s3 4;t1 4 5 0;"), 6);
        MindsByTen x = Checks.in("e7;h3;s1 2;t0 1 2 3;s3 4;t1 4 5 0;");
        c.due("seats", x.count(0), 2);
        c.due("things", x.count(1), 2);
        c.due("hands", x.count(2), 3);
        c.due("ten", x.count(3), 7);
        c.due("text", x.count(6), 0);
        c.due("x", x.seat(1, 0), 3);
        c.due("y", x.seat(1, 1), 4);
        c.due("owner", x.thing(1, 0), 1);
        c.due("marks", x.thing(1, 1), 4);
        c.due("a", x.thing(1, 2), 5);
        c.due("b", x.thing(1, 3), 0);
    }

    private static void fault(String text, int place) {
        MindsByTen x = Checks.in("s1 2;h3;");
        Checks.tell(x, text);
        c.due("fault of '" + text + "'", x.hall(), -10 - place);
        c.due("the text stays", x.count(6), text.length());
        c.due("seats stay", x.count(0), 1);
        c.due("hands stay", x.count(2), 3);
        c.due("again", x.hall(), -10 - place);
    }

    private static void hallFaults() {
        c.about("promise 4, faults");
        fault("s", 1);
        fault("s1", 2);
        fault("s1 2", 4);
        fault("s1 2  ", 6);
        fault("s1 2;t", 6);
        fault(" s1 2; h", 8);
        fault(";", 0);
        fault("5", 0);
        fault("  x", 2);
        fault("S1 2;", 0);
        fault("s1 2;;", 5);
        fault("s1,2;", 2);
        fault("s12;", 1);
        fault("s1 2 3;", 5);
        fault("s1 2s", 4);
        fault("s 10 1;", 2);
        fault("s 1 10;", 4);
        fault("s 01 1;", 2);
        fault("s 00 1;", 2);
        fault("s 0 00;", 4);
        fault("s 201 1;", 2);
        fault("s 4294967297 1;", 2);
        fault("s -1 1;", 2);
        fault("ss", 1);
        fault("s0 0;s0 0;s0 0;s0 0;s", 20);
        fault("s0 0;t0 0 0 1;t0 0 0 1;t0 0 0 1;t0 0 0 1; t0 0 0 1;", 42);
        fault("h2;h2;", 3);
        fault("h2;e2;e", 6);
        fault("h0;", 1);
        fault("h5;", 1);
        fault("h;", 1);
        fault("e0;", 1);
        fault("e201;", 1);
        fault("e 007;", 2);
        fault("t0 0 0 1;", 1);
        fault("s0 0;t1 0 0 1;s0 0;", 6);
        fault("s0 0;t0 32 0 1;", 8);
        fault("s0 0;t0 0 6 1;", 10);
        fault("s0 0;t0 0 0 6;", 12);
        fault("s0 0;t0 0 3 3;", 12);
        fault("s0 0;t0 0 6 6;", 10);
        fault("s0 0;t0 0 3;", 11);
        fault("s0 0;t0 0", 9);
        fault("s0 0;t0 0 0 1 2;", 14);
        fault("s0 0\t;", 4);
        fault("s0 0;\u0000", 5);
        fault("s0 0;\u00ff", 5);
        fault("s1 1;s 9 x; s 77 1;", 9);
        fault("s1 1;s 77 1; x", 7);
        c.due("highest", Checks.told("s9 9;t0 31 5 4;h4;e200;"), 4);
        c.due("lowest", Checks.told("s0 0;t0 0 0 1;h1;e1;"), 4);
    }

    private static void hallAnew() {
        c.about("promise 4, anew");
        MindsByTen x = Checks.in(HALL);
        x.goes(0);
        x.takes(0);
        x.keep(0);
        x.felt(1);
        x.tells(0, 0, 1);
        x.rate(0, 0);
        c.due("anew", x.hall(), 0);
        c.due("seats", x.count(0), 0);
        c.due("things", x.count(1), 0);
        c.due("hands", x.count(2), 2);
        c.due("ten", x.count(3), 60);
        c.due("felt", x.count(4), 0);
        c.due("told", x.count(5), 0);
        for (int what = 0; what < 6; what++) {
            c.due("now " + what, x.now(what), what == 1 ? NONE : 0);
        }
        c.due("image", x.again(0), STATE);
        c.due("undo", x.undo(), STATE);
        c.due("trace", x.trace(), 1);
        c.due("way back", x.back(0), 0);
        Checks.tell(x, "s4 4;t0 0 0 1;");
        c.due("other", x.hall(), 2);
        c.due("seen by 1", x.seenBy(1), 10);
        Checks.tell(x, "s3 4;t0 0 0 1;");
        c.due("nearer", x.hall(), 2);
        c.due("seen by 1 now", x.seenBy(1), 9);
    }

    private static void seat() {
        c.about("promise 5");
        MindsByTen x = Checks.in(HALL);
        c.due("x", x.seat(2, 0), 5);
        c.due("y", x.seat(2, 1), 4);
        c.due("in 0", x.seat(0, 2), 9);
        c.due("in 1", x.seat(1, 2), 2);
        c.due("in 3", x.seat(3, 2), 0);
        c.due("way from the door", x.seat(2, 3), 9);
        x.goes(0);
        c.due("way", x.seat(2, 3), 7);
        c.due("way to where she is", x.seat(0, 3), 0);
        x.takes(3);
        c.due("in 0 when taken", x.seat(0, 2), 1);
        x.goes(2);
        x.leaves(3);
        c.due("in 2 when left", x.seat(2, 2), 12);
        int[][] bad = {{-1, 0}, {4, 0}, {0, -1}, {0, 4}, {4, 4}};
        for (int[] b : bad) {
            c.due("bad", x.seat(b[0], b[1]), BAD);
        }
        for (int n : FAR_OFF) {
            c.due("far off", x.seat(n, 0), BAD);
            c.due("far off", x.seat(0, n), BAD);
        }
        c.due("no such seat", Checks.in("s1 1;").seat(1, 0), BAD);
        c.due("no seats", new MindsByTen().seat(0, 0), BAD);
    }

    private static void thing() {
        c.about("promise 6");
        MindsByTen x = Checks.in(HALL);
        int[] want = {0, 7, 2, 5, 0, 0};
        for (int what = 0; what < want.length; what++) {
            c.due("thing 3, " + what, x.thing(3, what), want[what]);
        }
        x.goes(0);
        x.takes(3);
        c.due("with her", x.thing(3, 4), NONE);
        c.due("read", x.thing(3, 5), 1);
        c.due("other not read", x.thing(0, 5), 0);
        x.goes(2);
        x.leaves(3);
        c.due("in a mind", x.thing(3, 4), 2);
        c.due("owner stays", x.thing(3, 0), 0);
        c.due("still read", x.thing(3, 5), 1);
        int[][] bad = {{-1, 0}, {4, 0}, {0, -1}, {0, 6}, {4, 6}};
        for (int[] b : bad) {
            c.due("bad", x.thing(b[0], b[1]), BAD);
        }
        for (int n : FAR_OFF) {
            c.due("far off", x.thing(n, 0), BAD);
            c.due("far off", x.thing(0, n), BAD);
        }
        c.due("no things", Checks.in("s1 1;").thing(0, 0), BAD);
    }

    private static void now() {
        c.about("promise 7");
        MindsByTen x = Checks.in(HALL);
        c.due("at the door", x.now(1), NONE);
        x.goes(0);
        x.takes(0);
        x.takes(3);
        int[] want = {4, 0, 9, 9, 9, 3};
        for (int what = 0; what < want.length; what++) {
            c.due("now " + what, x.now(what), want[what]);
        }
        x.goes(1);
        x.leaves(0);
        int[] then = {8, 1, 8, 9, 9, 5};
        for (int what = 0; what < then.length; what++) {
            c.due("then " + what, x.now(what), then[what]);
        }
        x.goes(0);
        x.leaves(3);
        c.due("one astray", x.now(3), 1);
        c.due("read stay", x.now(4), 9);
        c.due("below", x.now(-1), BAD);
        c.due("above", x.now(6), BAD);
        for (int n : FAR_OFF) {
            c.due("far off", x.now(n), BAD);
        }
    }

    private static void goes() {
        c.about("promise 8");
        MindsByTen x = Checks.in("s0 0;s9 9;s9 9;");
        c.due("bad", x.goes(-1), BAD);
        c.due("no such seat", x.goes(3), BAD);
        for (int n : FAR_OFF) {
            c.due("far off", x.goes(n), BAD);
        }
        c.due("none to undo", x.now(5), 0);
        c.due("at the door's place", x.goes(0), 0);
        c.due("there", x.goes(0), STATE);
        c.due("far", x.goes(1), 18);
        c.due("minute", x.now(0), 18);
        c.due("same place", x.goes(2), 0);
        c.due("where", x.now(1), 2);
        c.due("undoable", x.now(5), 3);
        Checks.toMinute(x, 982);
        c.due("beyond", x.goes(0), STATE);
        c.due("still there", x.now(1), 2);
        Checks.toMinute(x, 999);
        c.due("beyond 999", x.goes(0), STATE);
        c.due("no minutes at 999", x.goes(1), 0);
        MindsByTen y = Checks.in("s9 9;s0 0;");
        Checks.toMinute(y, 981);
        c.due("up to 999", y.goes(0), 18);
        c.due("999", y.now(0), 999);
        c.due("nobody there", new MindsByTen().goes(0), BAD);
    }

    private static void takes() {
        c.about("promise 9");
        MindsByTen x = Checks.in("s1 0;s0 1;t0 1 0 1;t0 2 1 2;t1 4 2 3;t0 8 3 4;");
        c.due("bad", x.takes(-1), BAD);
        c.due("no such thing", x.takes(4), BAD);
        for (int n : FAR_OFF) {
            c.due("far off", x.takes(n), BAD);
        }
        c.due("at the door", x.takes(0), STATE);
        x.goes(0);
        c.due("one", x.takes(0), 1);
        c.due("with her", x.takes(0), STATE);
        c.due("of another", x.takes(2), STATE);
        c.due("two", x.takes(3), 2);
        c.due("full", x.takes(1), STATE);
        c.due("minute", x.now(0), 3);
        c.due("read", x.now(4), 9);
        c.due("undoable", x.now(5), 3);
        x.goes(1);
        x.leaves(0);
        c.due("left elsewhere", x.takes(0), 2);
        MindsByTen y = Checks.in("s1 0;s0 1;t0 1 0 1;t0 2 1 2;");
        y.goes(0);
        Checks.toMinute(y, 998);
        c.due("at 998", y.takes(0), 1);
        c.due("at 999", y.takes(1), STATE);
        c.due("not read", y.thing(1, 5), 0);
        MindsByTen z = Checks.in("s0 0;t0 1 0 1;t0 2 1 2;h1;");
        z.goes(0);
        z.takes(0);
        c.due("one hand", z.takes(1), STATE);
        MindsByTen four = Checks.in("s0 0;t0 1 0 1;t0 2 1 2;t0 2 1 2;t0 2 1 2;h4;");
        four.goes(0);
        for (int t = 0; t < 4; t++) {
            c.due("four hands", four.takes(t), t + 1);
        }
    }

    private static void leaves() {
        c.about("promise 10");
        MindsByTen x = Checks.in("s1 0;s0 1;t0 1 0 1;t0 2 1 2;");
        c.due("bad", x.leaves(-1), BAD);
        c.due("no such thing", x.leaves(2), BAD);
        for (int n : FAR_OFF) {
            c.due("far off", x.leaves(n), BAD);
        }
        c.due("at the door", x.leaves(0), STATE);
        x.goes(0);
        c.due("not with her", x.leaves(0), STATE);
        x.takes(0);
        x.takes(1);
        c.due("one less", x.leaves(1), 1);
        c.due("left already", x.leaves(1), STATE);
        x.goes(1);
        c.due("none", x.leaves(0), 0);
        c.due("there", x.thing(0, 4), 1);
        c.due("minute", x.now(0), 7);
        c.due("undoable", x.now(5), 6);
        c.due("hands are free", x.takes(0), 1);
        Checks.toMinute(x, 999);
        c.due("at 999", x.leaves(0), STATE);
        c.due("still with her", x.thing(0, 4), NONE);
    }

    private static void encores() {
        c.about("promise 11");
        MindsByTen x = new MindsByTen();
        c.due("none", x.encores(0), BAD);
        c.due("above", x.encores(31), BAD);
        for (int n : FAR_OFF) {
            c.due("far off", x.encores(n), BAD);
        }
        c.due("one", x.encores(1), 1);
        c.due("thirty", x.encores(30), 31);
        c.due("undoable", x.now(5), 2);
        Checks.toMinute(x, 969);
        c.due("beyond", x.encores(31), BAD);
        c.due("up to 999", x.encores(30), 999);
        c.due("beyond 999", x.encores(1), STATE);
        x.undo();
        x.encores(1);
        c.due("beyond by one", x.encores(30), STATE);
    }

    private static void undo() {
        c.about("promise 12");
        MindsByTen x = Checks.in(HALL);
        c.due("none", x.undo(), STATE);
        x.goes(0);
        x.takes(3);
        x.goes(1);
        x.leaves(3);
        x.encores(5);
        x.takes(3);
        c.due("of six", x.undo(), 5);
        c.due("in a mind again", x.thing(3, 4), 1);
        c.due("encore", x.undo(), 4);
        c.due("minute", x.now(0), 7);
        c.due("left", x.undo(), 3);
        c.due("with her", x.thing(3, 4), NONE);
        c.due("refused ones are not known", x.takes(0), STATE);
        c.due("gone", x.undo(), 2);
        c.due("where", x.now(1), 0);
        c.due("taken", x.undo(), 1);
        c.due("not read", x.now(4), 0);
        c.due("first", x.undo(), 0);
        c.due("at the door", x.now(1), NONE);
        c.due("minute 0", x.now(0), 0);
        c.due("none more", x.undo(), STATE);
        for (int i = 1; i <= 13; i++) {
            x.encores(1);
            c.due("known", x.now(5), Math.min(i, 10));
        }
        for (int i = 9; i >= 0; i--) {
            c.due("ten", x.undo(), i);
        }
        c.due("older are lost", x.undo(), STATE);
        c.due("minute 3", x.now(0), 3);
        x.rate(0, 0);
        x.felt(1);
        x.tells(0, 0, 1);
        x.encores(1);
        x.undo();
        c.due("trace stays", x.trace(), 1);
        c.due("felt stays", x.count(4), 1);
        c.due("told stays", x.count(5), 1);
    }

    private static void back() {
        c.about("promise 13");
        MindsByTen x = Checks.in(HALL);
        c.due("below", x.back(-1), BAD);
        c.due("above", x.back(2), BAD);
        for (int n : FAR_OFF) {
            c.due("far off", x.back(n), BAD);
        }
        c.due("all back", x.back(0), 0);
        c.due("no step", x.back(1), NONE);
        x.goes(0);
        x.takes(0);
        x.takes(3);
        c.due("two to leave", x.back(0), 2);
        c.due("leave the lowest", x.back(1), 20);
        x.goes(1);
        x.leaves(0);
        x.takes(1);
        c.due("leave, take, go, leave both", x.back(0), 7);
        c.due("leave first", x.back(1), 21);
        c.due("nothing is changed", x.now(0), 9);
        Checks.toMinute(x, 999);
        c.due("minute 999 does not matter", x.back(0), 7);
        c.due("nor for the step", x.back(1), 21);
        MindsByTen y = Checks.in("s0 0;s9 0;t0 1 0 1;t0 1 0 1;t0 1 0 1;t0 1 0 1;h1;");
        for (int t = 0; t < 4; t++) {
            y.goes(0);
            y.takes(t);
            y.goes(1);
            y.leaves(t);
        }
        c.due("one hand, four ways", y.back(0), 7 * 9 + 8);
        c.due("take the lowest", y.back(1), 10);
    }

    private static void backSteps() {
        c.about("promise 13, steps");
        MindsByTen x = Checks.in("s1 0;s3 0;s2 1;t0 1 0 1;t1 1 1 2;");
        x.goes(0);
        x.takes(0);
        x.goes(2);
        x.leaves(0);
        x.goes(1);
        x.takes(1);
        x.goes(2);
        x.leaves(1);
        c.due("takes both", x.back(1), 10);
        x.takes(1);
        c.due("takes the other", x.back(1), 10);
        x.takes(0);
        c.due("like ways: the lowest seat", x.back(1), 0);
        x.goes(0);
        c.due("leaves", x.back(1), 20);
        x.leaves(0);
        c.due("goes on", x.back(1), 1);
        c.due("minutes", x.back(0), 3);
        MindsByTen y = Checks.in("s4 4;s4 4;t1 1 0 1;");
        y.goes(1);
        y.takes(0);
        c.due("a way of no minutes takes no more", y.back(1), 0);
        y.goes(0);
        c.due("and on", y.back(1), 1);
        c.due("leave only", y.back(0), 1);
        MindsByTen z = Checks.in("s0 0;s2 0;t0 1 0 1;t1 1 1 2;h1;");
        z.goes(0);
        z.takes(0);
        z.goes(1);
        c.due("full hands: back with it", z.back(1), 0);
        z.leaves(0);
        z.takes(1);
        z.goes(0);
        c.due("go before leave", z.back(1), 1);
        c.due("swap", z.back(0), 2 + 1 + 1 + 2 + 1);
    }

    private static void left() {
        c.about("promise 14");
        MindsByTen x = Checks.in("s3 0;s6 0;t0 1 0 1;e10;");
        c.due("all", x.left(), 10);
        x.goes(0);
        c.due("less the minute", x.left(), 7);
        x.takes(0);
        c.due("less back", x.left(), 5);
        x.goes(1);
        c.due("too late", x.left(), 10 - 7 - 4);
        Checks.toMinute(x, 999);
        c.due("far too late", x.left(), 10 - 999 - 4);
    }

    private static void see() {
        c.about("promise 15");
        String things = "s3 0;s6 0;t0 1 0 1;t0 2 0 1;t1 4 2 3;";
        int[] tens = {4, 5, 6, 7, 8, 11, 12, 13};
        int[] most = {0, 1, 1, 2, 2, 2, 3, 3};
        for (int i = 0; i < tens.length; i++) {
            c.due("by " + tens[i], Checks.in(things + "e" + tens[i] + ";").see(), most[i]);
        }
        MindsByTen x = Checks.in(things + "e6;");
        x.goes(0);
        x.takes(0);
        x.leaves(0);
        c.due("those that are, too", x.see(), 1);
        x.encores(1);
        c.due("at ten", x.see(), 1);
        x.encores(1);
        c.due("behind ten, all with their owners", x.see(), NONE);
        MindsByTen y = Checks.in(things + "e12;");
        y.goes(0);
        y.takes(0);
        y.goes(1);
        c.due("back at eleven", y.left(), 1);
        c.due("one more would be too late", y.see(), 1);
        y.encores(1);
        c.due("just back", y.see(), 1);
        y.encores(1);
        c.due("too late", y.see(), NONE);
        c.due("no things", Checks.in("s1 1;e1;").see(), 0);
        c.due("one at the door", Checks.in("s0 0;t0 1 0 1;t0 1 0 1;e2;").see(), 1);
    }

    private static void seenBy() {
        c.about("promise 16");
        MindsByTen x = Checks.in(HALL);
        int[] want = {0, 4, 6, 11, 17};
        for (int n = 0; n < want.length; n++) {
            c.due("by " + n, x.seenBy(n), want[n]);
        }
        c.due("below", x.seenBy(-1), BAD);
        c.due("above", x.seenBy(5), BAD);
        for (int n : FAR_OFF) {
            c.due("far off", x.seenBy(n), BAD);
        }
        x.goes(0);
        x.takes(0);
        c.due("with her: leave it", x.seenBy(0), 1);
        c.due("that is read", x.seenBy(1), 1);
        c.due("another here", x.seenBy(2), 3);
        x.leaves(0);
        c.due("all back, one read", x.seenBy(1), 0);
        c.due("from now", x.seenBy(2), 2);
        Checks.toMinute(x, 999);
        c.due("minute 999 does not matter", x.seenBy(2), 2);
        MindsByTen y = Checks.in("s1 1;t0 1 0 1;t0 1 0 1;");
        c.due("as many as there are", y.seenBy(2), 6);
        c.due("more than there are", y.seenBy(3), NONE);
        c.due("no things", new MindsByTen().seenBy(0), 0);
        MindsByTen z = Checks.in("s0 0;s9 0;s9 9;t1 1 0 1;t2 1 0 1;t1 1 0 1;h1;");
        c.due("full hands", z.seenBy(3), 9 + 4 + 9 + 2);
    }

    private static void odds(MindsByTen x, int tenths, int k, int upper, int lower) {
        c.due("odds " + tenths + " " + k + " upper", x.odds(tenths, k, 0), upper);
        c.due("odds " + tenths + " " + k + " lower", x.odds(tenths, k, 1), lower);
    }

    private static void odds() {
        c.about("promise 17");
        MindsByTen x = Checks.in("s0 0;s1 0;t0 1 0 1;t0 1 0 1;t0 1 0 1;t0 1 0 1;h4;");
        odds(x, 3, 0, 1, 1);
        odds(x, 10, 0, 1, 1);
        x.goes(0);
        x.takes(0);
        odds(x, 3, 0, 7, 10);
        odds(x, 3, 1, 1, 1);
        odds(x, 10, 0, 0, 1);
        odds(x, 0, 0, 1, 1);
        x.takes(1);
        odds(x, 5, 0, 1, 4);
        odds(x, 5, 1, 3, 4);
        odds(x, 4, 1, 21, 25);
        x.takes(2);
        x.takes(3);
        x.goes(1);
        x.leaves(2);
        odds(x, 3, 2, 9163, 10000);
        odds(x, 7, 0, 81, 10000);
        odds(x, 9, 3, 3439, 10000);
        odds(x, 9, 4, 1, 1);
        odds(x, 10, 3, 0, 1);
        odds(x, 0, 0, 1, 1);
        int[][] bad = {{-1, 0, 0}, {11, 0, 0}, {0, -1, 0}, {0, 5, 0}, {0, 0, -1}, {0, 0, 2}};
        for (int[] b : bad) {
            c.due("bad", x.odds(b[0], b[1], b[2]), BAD);
        }
        for (int n : FAR_OFF) {
            c.due("far off", x.odds(n, 0, 0), BAD);
            c.due("far off", x.odds(0, n, 0), BAD);
            c.due("far off", x.odds(0, 0, n), BAD);
        }
    }

    private static void knows(MindsByTen x, int twos, int new_, int most) {
        c.due("twos", x.knows(0), twos);
        c.due("of none alone", x.knows(1), new_);
        c.due("most", x.knows(2), most);
    }

    private static void knows() {
        c.about("promise 18");
        MindsByTen x = Checks.in("s0 0;t0 1 0 1;t0 1 1 2;t0 1 5 4;t0 1 4 2;h4;");
        knows(x, 0, 0, 1);
        x.goes(0);
        x.takes(0);
        knows(x, 1, 0, 2);
        x.takes(2);
        knows(x, 2, 0, 2);
        x.takes(1);
        knows(x, 4, 1, 3);
        x.leaves(1);
        knows(x, 4, 1, 3);
        x.takes(3);
        knows(x, 10, 6, 5);
        x.undo();
        knows(x, 4, 1, 3);
        MindsByTen y = Checks.in("s0 0;t0 1 0 1;t0 2 1 0;t0 1 1 2;t0 4 0 2;h4;");
        y.goes(0);
        y.takes(0);
        y.takes(1);
        knows(y, 1, 0, 2);
        y.takes(2);
        knows(y, 3, 1, 3);
        y.takes(3);
        knows(y, 3, 0, 3);
        c.due("below", y.knows(-1), BAD);
        c.due("above", y.knows(3), BAD);
        for (int n : FAR_OFF) {
            c.due("far off", y.knows(n), BAD);
        }
        knows(new MindsByTen(), 0, 0, 1);
    }

    private static void felt() {
        c.about("promise 19");
        MindsByTen x = new MindsByTen();
        c.due("below", x.felt(-1), BAD);
        c.due("above", x.felt(32), BAD);
        for (int n : FAR_OFF) {
            c.due("far off", x.felt(n), BAD);
        }
        c.due("lowest", x.felt(0), 1);
        c.due("highest", x.felt(31), 2);
        for (int i = 3; i <= 6; i++) {
            c.due("more", x.felt(1), i);
        }
        c.due("full", x.felt(1), FULL);
        c.due("bad ahead of full", x.felt(32), BAD);
        c.due("count", x.count(4), 6);
    }

    private static void whose() {
        c.about("promise 20");
        MindsByTen x = Checks.in("s0 0;t0 0 0 1;t0 1 0 1;t0 3 0 1;t0 28 0 1;");
        c.due("nothing felt", x.whose(-1), 1);
        c.due("no such", x.whose(0), BAD);
        x.felt(0);
        c.due("two ways", x.whose(-1), 2);
        c.due("not sure", x.whose(0), NONE);
        x.felt(2);
        // 0 is 0 or 1; 2 is 0 or 2 (3 differs in one, 0 in one)
        c.due("three ways", x.whose(-1), 3);
        c.due("not sure of 0", x.whose(0), NONE);
        c.due("not sure of 1", x.whose(1), NONE);
        x.felt(12);
        c.due("still three", x.whose(-1), 3);
        c.due("sure of 2", x.whose(2), 3);
        x.felt(0);
        c.due("four", x.whose(-1), 2);
        c.due("sure of 1", x.whose(1), 2);
        c.due("not the same", x.whose(3), NONE);
        x.felt(0);
        c.due("more than things", x.whose(-1), 0);
        c.due("no way, no sure", x.whose(2), NONE);
        c.due("below", x.whose(-2), BAD);
        c.due("above", x.whose(5), BAD);
        for (int n : FAR_OFF) {
            c.due("far off", x.whose(n), BAD);
        }
        MindsByTen y = Checks.in("s0 0;t0 0 0 1;");
        y.felt(3);
        c.due("two apart", y.whose(-1), 0);
        c.due("nobody's", y.whose(0), NONE);
        MindsByTen z = Checks.in("s0 0;t0 7 0 1;t0 7 0 1;t0 7 0 1;t0 7 0 1;");
        for (int i = 0; i < 4; i++) {
            z.felt(7);
        }
        c.due("all rows", z.whose(-1), 24);
    }

    private static void tells() {
        c.about("promise 21");
        MindsByTen x = Checks.in(HALL);
        int[][] bad = {{-1, 0, 1}, {4, 0, 1}, {0, -1, 1}, {0, 4, 1}, {0, 0, -1}, {0, 0, 4}, {0, 2, 2}};
        for (int[] b : bad) {
            c.due("bad", x.tells(b[0], b[1], b[2]), BAD);
        }
        for (int n : FAR_OFF) {
            c.due("far off", x.tells(n, 0, 1), BAD);
            c.due("far off", x.tells(0, n, 1), BAD);
            c.due("far off", x.tells(0, 0, n), BAD);
        }
        for (int i = 1; i <= 6; i++) {
            c.due("told", x.tells(3, 3, 0), i);
        }
        c.due("full", x.tells(0, 0, 1), FULL);
        c.due("bad ahead of full", x.tells(0, 1, 1), BAD);
        c.due("count", x.count(5), 6);
        c.due("nothing is moved", x.now(3), 0);
    }

    private static int fitsOf(MindsByTen x, int t, int from, int to) {
        x.forget();
        x.tells(t, from, to);
        return x.fits();
    }

    private static void fits() {
        c.about("promise 22");
        MindsByTen x = Checks.in("s2 0;s5 0;s5 4;s0 1;t0 1 0 1;t1 1 0 1;t2 1 0 1;t3 1 0 1;");
        c.due("nothing told", x.fits(), 7);
        c.due("owner, nearest", fitsOf(x, 0, 1, 0), 3);
        c.due("next", fitsOf(x, 0, 1, 2), 4);
        c.due("owner, next", fitsOf(x, 2, 1, 2), 5);
        c.due("like ways: the lowest", fitsOf(x, 3, 0, 1), 6);
        c.due("like ways: not the other", fitsOf(x, 0, 0, 3), 0);
        c.due("owner, not nearest", fitsOf(x, 3, 0, 3), 1);
        c.due("nearest, not next", fitsOf(x, 0, 2, 1), 2);
        c.due("round again", fitsOf(x, 2, 3, 0), 6);
        c.due("by none", fitsOf(x, 2, 3, 1), 0);
        c.due("owner alone", fitsOf(x, 0, 2, 0), 1);
        x.forget();
        x.tells(0, 3, 0);
        c.due("all laws", x.fits(), 7);
        x.tells(3, 2, 3);
        c.due("both by 0 and 2", x.fits(), 5);
        x.tells(3, 1, 2);
        c.due("all by 2", x.fits(), 4);
        x.tells(3, 1, 3);
        c.due("by none", x.fits(), 0);
        MindsByTen y = Checks.in("s5 5;s4 5;s6 5;s5 4;t0 1 0 1;");
        c.due("like ways, lowest", fitsOf(y, 0, 0, 1), 6);
        c.due("like ways, not the lowest", fitsOf(y, 0, 0, 2), 0);
        MindsByTen z = Checks.in("s1 1;s1 1;t0 1 0 1;");
        c.due("two seats at one place", fitsOf(z, 0, 1, 0), 7);
    }

    private static void forget() {
        c.about("promise 23");
        MindsByTen x = Checks.in(HALL);
        c.due("nothing", x.forget(), 0);
        x.felt(1);
        x.felt(2);
        x.tells(0, 0, 1);
        c.due("three", x.forget(), 3);
        c.due("felt", x.count(4), 0);
        c.due("told", x.count(5), 0);
        c.due("ways", x.whose(-1), 1);
        c.due("fits", x.fits(), 7);
        c.due("again", x.forget(), 0);
    }

    private static void rate() {
        c.about("promise 24");
        MindsByTen x = Checks.in(HALL);
        int[] want = {3, 3, -4, 6, -1, 3};
        for (int kind = 0; kind < want.length; kind++) {
            c.due("kind " + kind, x.rate(kind, 3), want[kind]);
        }
        x.goes(0);
        x.takes(3);
        x.goes(2);
        int[] withHer = {3, 10, -4, 20, -1, 13};
        for (int kind = 0; kind < withHer.length; kind++) {
            c.due("with her, kind " + kind, x.rate(kind, 3), withHer[kind]);
        }
        x.leaves(3);
        x.goes(3);
        c.due("in a mind", x.rate(1, 3), 10);
        c.due("curate", x.rate(3, 3), 20);
        c.due("bishop", x.rate(4, 2), 2 - 7 + 2);
        c.due("twin", x.rate(5, 0), 2 + 17);
        long trace = x.trace();
        int[][] bad = {{-1, 0}, {6, 0}, {0, -1}, {0, 4}};
        for (int[] b : bad) {
            c.due("bad", x.rate(b[0], b[1]), NO);
        }
        for (int n : FAR_OFF) {
            c.due("far off", x.rate(n, 0), NO);
            c.due("far off", x.rate(0, n), NO);
        }
        c.due("trace stays", x.trace(), trace);
    }

    private static void keep() {
        c.about("promise 25");
        MindsByTen x = Checks.in(HALL);
        c.due("below", x.keep(-1), BAD);
        c.due("above", x.keep(2), BAD);
        for (int n : FAR_OFF) {
            c.due("far off", x.keep(n), BAD);
        }
        c.due("at first", x.keep(0), 0);
        x.goes(0);
        c.due("later", x.keep(1), 2);
        c.due("undoable still", x.now(5), 1);
        c.due("undo", x.undo(), 0);
        x.encores(9);
        c.due("kept anew", x.keep(0), 9);
        c.due("the newer", x.again(0), 9);
    }

    private static void again() {
        c.about("promise 26");
        MindsByTen x = Checks.in(HALL);
        c.due("below", x.again(-1), BAD);
        c.due("above", x.again(2), BAD);
        for (int n : FAR_OFF) {
            c.due("far off", x.again(n), BAD);
        }
        c.due("none kept", x.again(0), STATE);
        x.goes(0);
        x.takes(3);
        x.keep(0);
        c.due("not the other", x.again(1), STATE);
        x.goes(2);
        x.leaves(3);
        x.takes(2);
        x.felt(3);
        x.tells(0, 0, 1);
        x.rate(0, 0);
        c.due("not yet", x.now(5), 5);
        c.due("again", x.again(0), 3);
        int[] want = {3, 0, 8, 8, 8, 0};
        for (int what = 0; what < want.length; what++) {
            c.due("now " + what, x.now(what), want[what]);
        }
        c.due("undo", x.undo(), STATE);
        c.due("felt stays", x.count(4), 1);
        c.due("told stays", x.count(5), 1);
        c.due("trace stays", x.trace(), 1);
        x.leaves(3);
        c.due("and again", x.again(0), 3);
        c.due("with her", x.thing(3, 4), NONE);
        c.due("back", x.back(0), 1);
    }

    private static void count() {
        c.about("promise 27");
        MindsByTen x = Checks.in("s1 1;s2 2;s3 3;t0 1 0 1;h4;e200;");
        x.felt(1);
        x.felt(2);
        x.tells(0, 0, 1);
        Checks.tell(x, "abc ");
        int[] want = {3, 1, 4, 200, 2, 1, 4};
        for (int what = 0; what < want.length; what++) {
            c.due("count " + what, x.count(what), want[what]);
        }
        c.due("below", x.count(-1), BAD);
        c.due("above", x.count(7), BAD);
        for (int n : FAR_OFF) {
            c.due("far off", x.count(n), BAD);
        }
    }

    private static void trace() {
        c.about("promise 28");
        int[] added = {1, 11, 101, 1011, 10101, 100001};
        long sum = 0;
        MindsByTen x = Checks.in(HALL);
        for (int kind = 0; kind < added.length; kind++) {
            x.rate(kind, 0);
            sum += added[kind];
            c.due("kind " + kind, x.trace(), sum);
        }
        x.encores(1);
        x.undo();
        x.keep(0);
        x.again(0);
        x.forget();
        x.hall();
        c.due("goes on", x.trace(), sum);
        c.due("no such thing now", x.rate(0, 0), NO);
        c.due("nothing added", x.trace(), sum);
    }
}
