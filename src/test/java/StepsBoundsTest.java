/** The bounds that the document names for seats, things, NOW and what is done (part 2, promises 5 to 12), a sentence each. */
public final class StepsBoundsTest {
    private static final int BAD = -1, STATE = -2, NONE = -9;
    private static final String CORNERS = "s0 0;s9 0;s0 9;s9 9;";

    private static final Checks c = new Checks();

    public static void main(String[] args) {
        numbersOfSeats();
        numbersOfThings();
        numbersOfNow();
        seatsIn();
        mindsOfThings();
        atFirst();
        ways();
        goneElsewhere();
        goneToThatPlace();
        goneUpTo999();
        goneOneBeyond();
        takenThere();
        takenAtTheDoor();
        takenWithHands();
        takenFromAnother();
        takenUpTo999();
        readFromThenOn();
        leftThere();
        leftAtTheDoor();
        leftInAnyMind();
        leftUpTo999();
        encores();
        encoresUpTo999();
        undoneTen();
        undoneLatest();
        undoneEachKind();
        undoneNotRefused();
        undoneNotOthers();
        undoneRoundAgain();
        undoneFrom999();
        c.end();
    }

    private static void numbersOfSeats() {
        c.about("seat: BAD, no such SEAT or number");
        for (int seats = 0; seats <= 4; seats++) {
            MindsByTen x = Checks.in("s1 2;".repeat(seats));
            for (int s = -1; s <= 4; s++) {
                boolean there = s >= 0 && s < seats;
                c.due("x", x.seat(s, 0), there ? 1 : BAD);
                c.due("way", x.seat(s, 3), there ? 3 : BAD);
                c.due("below", x.seat(s, -1), BAD);
                c.due("above", x.seat(s, 4), BAD);
            }
            for (int n : Checks.FAR_OFF) {
                c.due("far off", x.seat(n, 0), BAD);
                c.due("far off", x.seat(0, n), BAD);
            }
        }
    }

    private static void numbersOfThings() {
        c.about("thing: BAD, no such THING or number");
        for (int things = 0; things <= 4; things++) {
            MindsByTen x = Checks.in("s1 2;" + "t0 9 4 5;".repeat(things));
            for (int t = -1; t <= 4; t++) {
                boolean there = t >= 0 && t < things;
                c.due("marks", x.thing(t, 1), there ? 9 : BAD);
                c.due("read", x.thing(t, 5), there ? 0 : BAD);
                c.due("below", x.thing(t, -1), BAD);
                c.due("above", x.thing(t, 6), BAD);
            }
            for (int n : Checks.FAR_OFF) {
                c.due("far off", x.thing(n, 1), BAD);
                c.due("far off", x.thing(0, n), BAD);
            }
        }
    }

    private static void numbersOfNow() {
        c.about("now: BAD");
        MindsByTen x = Checks.in(CORNERS);
        c.due("lowest", x.now(0), 0);
        c.due("highest", x.now(5), 0);
        c.due("below", x.now(-1), BAD);
        c.due("above", x.now(6), BAD);
        for (int n : Checks.FAR_OFF) c.due("far off", x.now(n), BAD);
    }

    private static void seatsIn() {
        c.about("IN of a SEAT: THINGS (bits) that are in its mind");
        MindsByTen x = Checks.in(CORNERS + "t0 0 0 1;t0 0 0 1;t0 0 0 1;t0 0 0 1;h4;");
        c.due("all", x.seat(0, 2), 15);
        for (int s = 1; s < 4; s++) c.due("none", x.seat(s, 2), 0);
        x.goes(0);
        for (int t = 0; t < 4; t++) {
            x.takes(t);
            c.due("one less", x.seat(0, 2), 15 & -(2 << t));
            c.due("with her", x.now(2), (2 << t) - 1);
        }
        x.goes(3);
        for (int t = 3; t >= 0; t--) {
            x.leaves(t);
            c.due("one more", x.seat(3, 2), 15 & -(1 << t));
            c.due("with her", x.now(2), (1 << t) - 1);
        }
        c.due("strays", x.now(3), 15);
        c.due("in no other", x.seat(0, 2), 0);
    }

    private static void mindsOfThings() {
        c.about("in whose mind it is (NONE: with her)");
        MindsByTen x = Checks.in(CORNERS + "t3 0 0 1;");
        c.due("its owner's", x.thing(0, 4), 3);
        x.goes(3);
        x.takes(0);
        c.due("with her", x.thing(0, 4), NONE);
        for (int s = 2; s >= 0; s--) {
            x.goes(s);
            c.due("with her still", x.thing(0, 4), NONE);
            x.leaves(0);
            c.due("in a mind", x.thing(0, 4), s);
            x.takes(0);
        }
    }

    private static void atFirst() {
        c.about("THE MINUTE is 0 at first, at the DOOR, nothing with her, each with its OWNER, nothing READ");
        MindsByTen x = Checks.in(CORNERS + "t0 0 0 1;t1 0 0 1;t2 0 0 1;t3 0 0 1;");
        int[] want = {0, NONE, 0, 0, 0, 0};
        for (int what = 0; what < 6; what++) c.due("now " + what, x.now(what), want[what]);
        for (int t = 0; t < 4; t++) {
            c.due("with its owner", x.thing(t, 4), t);
            c.due("not read", x.thing(t, 5), 0);
        }
    }

    private static void ways() {
        c.about("as many minutes as x and y differ, together");
        int[][] ways = {{0, 9, 9, 18}, {9, 0, 18, 9}, {9, 18, 0, 9}, {18, 9, 9, 0}};
        MindsByTen x = Checks.in(CORNERS);
        for (int round = 0; round < 12; round++) {
            int from = round == 0 ? 0 : x.now(1);
            int to = round * 3 % 4;
            if (to == from && round > 0) to = (to + 2) % 4;
            int minute = x.now(0);
            c.due("way", x.seat(to, 3), ways[from][to]);
            c.due("goes", x.goes(to), ways[from][to]);
            c.due("the minute", x.now(0), minute + ways[from][to]);
            c.due("she is there", x.now(1), to);
        }
        c.due("x and y", Checks.in("s3 4;").goes(0), 7);
        c.due("y alone", Checks.in("s0 4;").goes(0), 4);
    }

    private static void goneElsewhere() {
        c.about("GONE to a SEAT (another one than where she is)");
        MindsByTen x = Checks.in(CORNERS);
        for (int s = 0; s < 4; s++) {
            c.holds("gone", x.goes(s) >= 0);
            c.due("she is there", x.goes(s), STATE);
            c.due("none undone more", x.now(5), s + 1);
            c.due("where", x.now(1), s);
        }
        for (int n : new int[] {-1, 4}) c.due("no such seat", x.goes(n), BAD);
        for (int n : Checks.FAR_OFF) c.due("far off", x.goes(n), BAD);
        c.due("one seat alone", Checks.in("s1 1;").goes(1), BAD);
    }

    private static void goneToThatPlace() {
        c.about("two may be at one: GONE takes no minutes");
        MindsByTen x = Checks.in("s4 4;s4 4;t1 0 0 1;");
        x.goes(0);
        c.due("not in that mind", x.takes(0), STATE);
        c.due("no minutes", x.goes(1), 0);
        c.due("the minute", x.now(0), 8);
        c.due("known", x.now(5), 2);
        c.due("in that mind", x.takes(0), 1);
        c.due("back, no minutes", x.goes(0), 0);
        x.leaves(0);
        c.due("in the other mind", x.seat(0, 2), 1);
        c.due("a stray", x.now(3), 1);
    }

    private static void goneUpTo999() {
        c.about("goes: beyond MINUTE 999");
        for (int way = 1; way <= 18; way++) {
            String far = way > 9 ? "s9 " + (way - 9) + ";" : "s0 " + way + ";";
            MindsByTen x = Checks.in(far);
            Checks.toMinute(x, 999 - way);
            c.due("up to 999", x.goes(0), way);
            c.due("999", x.now(0), 999);
            MindsByTen y = Checks.in(far);
            Checks.toMinute(y, 1000 - way);
            c.due("beyond 999", y.goes(0), STATE);
            c.due("the minute stays", y.now(0), 1000 - way);
            c.due("at the door still", y.now(1), NONE);
        }
    }

    private static void goneOneBeyond() {
        c.about("goes: no minutes at MINUTE 999");
        MindsByTen x = Checks.in("s0 0;s0 0;s0 1;");
        Checks.toMinute(x, 999);
        c.due("far", x.goes(2), STATE);
        c.due("at the door's place", x.goes(0), 0);
        c.due("at one place", x.goes(1), 0);
        c.due("she is there", x.goes(1), STATE);
        c.due("999", x.now(0), 999);
    }

    private static void takenThere() {
        c.about("TAKEN at the SEAT where she is: a THING that is in that mind");
        MindsByTen x = Checks.in(CORNERS + "t0 0 0 1;t1 0 0 1;t2 0 0 1;t3 0 0 1;h4;");
        for (int s = 0; s < 4; s++) {
            x.goes(s);
            for (int t = s + 1; t < 4; t++) c.due("in another mind", x.takes(t), STATE);
            int minute = x.now(0);
            c.due("in that mind", x.takes(s), s + 1);
            c.due("1 minute", x.now(0), minute + 1);
            c.due("with her already", x.takes(s), STATE);
            c.due("1 minute alone", x.now(0), minute + 1);
        }
        for (int n : new int[] {-1, 4}) c.due("no such thing", x.takes(n), BAD);
        for (int n : Checks.FAR_OFF) c.due("far off", x.takes(n), BAD);
    }

    private static void takenAtTheDoor() {
        c.about("takes: at the DOOR");
        MindsByTen x = Checks.in("s0 0;t0 0 0 1;h4;");
        c.due("in no mind there", x.takes(0), STATE);
        c.due("not read", x.now(4), 0);
        x.goes(0);
        c.due("at the seat", x.takes(0), 1);
    }

    private static void takenWithHands() {
        c.about("takes: HANDS are full");
        for (int hands = 1; hands <= 4; hands++) {
            MindsByTen x = Checks.in("s0 0;s0 1;" + "t0 0 0 1;".repeat(4) + "h" + hands + ";");
            x.goes(0);
            for (int t = 0; t < 4; t++) {
                c.due("hands " + hands, x.takes(t), t < hands ? t + 1 : STATE);
                c.due("read", x.thing(t, 5), t < hands ? 1 : 0);
            }
            c.due("minutes", x.now(0), hands);
            c.due("known", x.now(5), hands + 1);
            x.leaves(0);
            c.due("room for one", x.takes(hands < 4 ? hands : 0), hands);
            c.due("full again", x.takes(0), STATE);
        }
        MindsByTen x = Checks.in("s0 0;" + "t0 0 0 1;".repeat(4));
        x.goes(0);
        x.takes(3);
        c.due("two at first", x.takes(2), 2);
        c.due("no third", x.takes(1), STATE);
    }

    private static void takenFromAnother() {
        c.about("takes: a THING that was left in another mind than its OWNER's");
        MindsByTen x = Checks.in(CORNERS + "t0 0 0 1;");
        x.goes(0);
        x.takes(0);
        x.goes(1);
        x.leaves(0);
        c.due("in that mind", x.takes(0), 1);
        x.leaves(0);
        x.goes(0);
        c.due("not in its owner's", x.takes(0), STATE);
    }

    private static void takenUpTo999() {
        c.about("takes: MINUTE 999");
        MindsByTen x = Checks.in("s0 0;t0 0 0 1;t0 0 0 1;");
        x.goes(0);
        Checks.toMinute(x, 997);
        c.due("at 997", x.takes(0), 1);
        c.due("at 998", x.takes(1), 2);
        c.due("999", x.now(0), 999);
        x.undo();
        x.encores(1);
        c.due("at 999", x.takes(1), STATE);
        c.due("not with her", x.now(2), 1);
        c.due("not read", x.now(4), 1);
        c.due("999 still", x.now(0), 999);
    }

    private static void readFromThenOn() {
        c.about("READ from then on");
        MindsByTen x = Checks.in(CORNERS + "t0 0 0 1;t0 0 0 1;");
        x.goes(0);
        c.due("ahead of it", x.thing(0, 5), 0);
        x.takes(0);
        c.due("with her", x.thing(0, 5), 1);
        x.leaves(0);
        c.due("left", x.thing(0, 5), 1);
        x.goes(3);
        x.encores(30);
        c.due("later", x.now(4), 1);
        c.due("the other", x.thing(1, 5), 0);
    }

    private static void leftThere() {
        c.about("LEFT: a THING that is with her");
        MindsByTen x = Checks.in(CORNERS + "t0 0 0 1;t0 0 0 1;t0 0 0 1;t1 0 0 1;h4;");
        x.goes(0);
        c.due("in that mind", x.leaves(0), STATE);
        c.due("in another mind", x.leaves(3), STATE);
        for (int t = 0; t < 3; t++) x.takes(t);
        for (int t = 0; t < 3; t++) {
            int minute = x.now(0);
            c.due("left", x.leaves(t), 2 - t);
            c.due("1 minute", x.now(0), minute + 1);
            c.due("left already", x.leaves(t), STATE);
            c.due("1 minute alone", x.now(0), minute + 1);
        }
        for (int n : new int[] {-1, 4}) c.due("no such thing", x.leaves(n), BAD);
        for (int n : Checks.FAR_OFF) c.due("far off", x.leaves(n), BAD);
    }

    private static void leftAtTheDoor() {
        c.about("leaves: she is at the DOOR");
        MindsByTen x = Checks.in("s0 0;t0 0 0 1;");
        c.due("at the door", x.leaves(0), STATE);
        c.due("no such thing", x.leaves(1), BAD);
        c.due("nothing is known", x.now(5), 0);
    }

    private static void leftInAnyMind() {
        c.about("LEFT is in the mind of the SEAT where she is");
        for (int s = 0; s < 4; s++) {
            MindsByTen x = Checks.in(CORNERS + "t2 0 0 1;");
            x.goes(2);
            x.takes(0);
            x.goes(s);
            c.due("none with her", x.leaves(0), 0);
            c.due("there", x.seat(s, 2), 1);
            c.due("stray", x.now(3), s == 2 ? 0 : 1);
            c.due("whose it is stays", x.thing(0, 0), 2);
        }
    }

    private static void leftUpTo999() {
        c.about("leaves: MINUTE 999");
        MindsByTen x = Checks.in("s0 0;t0 0 0 1;t0 0 0 1;");
        x.goes(0);
        x.takes(0);
        x.takes(1);
        Checks.toMinute(x, 998);
        c.due("at 998", x.leaves(0), 1);
        c.due("at 999", x.leaves(1), STATE);
        c.due("with her still", x.now(2), 2);
        c.due("999 still", x.now(0), 999);
    }

    private static void encores() {
        c.about("ENCORE: n (1 .. 30) minutes go by");
        for (int n = 1; n <= 30; n++) {
            MindsByTen x = Checks.in(CORNERS);
            c.due("n " + n, x.encores(n), n);
            c.due("the minute", x.now(0), n);
            c.due("once more", x.encores(30), n + 30);
        }
        MindsByTen x = Checks.in(CORNERS);
        for (int n : new int[] {0, -1, -30, 31}) c.due("n " + n, x.encores(n), BAD);
        for (int n : Checks.FAR_OFF) c.due("n " + n, x.encores(n), BAD);
        c.due("no minute went by", x.now(0), 0);
        c.due("where she is stays", x.now(1), NONE);
    }

    private static void encoresUpTo999() {
        c.about("encores: beyond MINUTE 999");
        for (int n = 1; n <= 30; n++) {
            MindsByTen x = new MindsByTen();
            Checks.toMinute(x, 1000 - n);
            c.due("beyond", x.encores(n), STATE);
            c.due("the minute stays", x.now(0), 1000 - n);
            c.due("up to 999", n == 1 ? 999 : x.encores(n - 1), 999);
            c.due("one more", x.encores(1), STATE);
            c.due("999", x.now(0), 999);
        }
    }

    private static void undoneTen() {
        c.about("UNDONE: 10 are known, older ones are lost");
        for (int steps = 0; steps <= 25; steps++) {
            MindsByTen x = new MindsByTen();
            for (int i = 1; i <= steps; i++) {
                x.encores(i);
                c.due("known", x.now(5), Math.min(i, 10));
            }
            int minute = x.now(0);
            for (int i = steps; i > Math.max(steps - 10, 0); i--) {
                c.due("how many more", x.undo(), i - Math.max(steps - 10, 0) - 1);
                minute -= i;
                c.due("the minute", x.now(0), minute);
            }
            c.due("none", x.undo(), STATE);
            c.due("the minute stays", x.now(0), minute);
            c.due("known", x.now(5), 0);
        }
    }

    private static void undoneLatest() {
        c.about("UNDONE: the latest");
        MindsByTen x = Checks.in(CORNERS + "t0 0 0 1;t0 0 0 1;t3 0 0 1;h4;");
        String[] before = new String[10];
        for (int i = 0; i < 10; i++) {
            before[i] = Probe.now(x);
            switch (i) {
                case 0: x.goes(0); break;
                case 1: x.takes(0); break;
                case 2: x.takes(1); break;
                case 3: x.goes(3); break;
                case 4: x.leaves(0); break;
                case 5: x.encores(30); break;
                case 6: x.takes(2); break;
                case 7: x.leaves(1); break;
                case 8: x.takes(0); break;
                default: x.goes(1);
            }
            c.holds("something changes", !before[i].equals(Probe.now(x)));
        }
        for (int i = 9; i >= 0; i--) {
            c.due("how many more", x.undo(), i);
            c.same("undone", Probe.now(x), before[i]);
        }
        c.due("none", x.undo(), STATE);
    }

    private static void undoneEachKind() {
        c.about("UNDONE: goes(), takes(), leaves(), encores(), each");
        MindsByTen x = Checks.in("s1 0;s2 0;t0 0 0 1;");
        x.goes(0);
        x.undo();
        c.due("at the door", x.now(1), NONE);
        c.due("minute 0", x.now(0), 0);
        x.goes(0);
        x.takes(0);
        x.undo();
        c.due("in a mind", x.thing(0, 4), 0);
        c.due("not read", x.thing(0, 5), 0);
        c.due("minute 1", x.now(0), 1);
        x.takes(0);
        x.leaves(0);
        x.takes(0);
        x.undo();
        c.due("read before, too", x.thing(0, 5), 1);
        x.undo();
        c.due("with her", x.thing(0, 4), NONE);
        c.due("minute 2", x.now(0), 2);
        x.encores(30);
        x.undo();
        c.due("minute 2 again", x.now(0), 2);
        c.due("known", x.now(5), 2);
    }

    private static void undoneNotRefused() {
        c.about("UNDONE: that was not refused");
        MindsByTen x = Checks.in("s1 0;s2 0;t0 0 0 1;t1 0 0 1;h1;");
        x.goes(0);
        x.takes(0);
        x.goes(1);
        for (int i = 0; i < 11; i++) {
            x.goes(1);
            x.goes(4);
            x.takes(1);
            x.takes(-1);
            x.leaves(1);
            x.leaves(9);
            x.encores(0);
            x.encores(31);
            x.undo();
            x.goes(1);
            c.due("known", x.now(5), 3);
        }
        c.due("gone", x.undo(), 2);
        c.due("where", x.now(1), 0);
        c.due("taken", x.undo(), 1);
        c.due("gone", x.undo(), 0);
        c.due("none", x.undo(), STATE);
        c.due("none, once more", x.undo(), STATE);
    }

    private static void undoneNotOthers() {
        c.about("UNDONE: no other calls");
        MindsByTen x = Checks.in("s1 0;s2 0;t0 0 0 1;");
        x.goes(0);
        x.felt(1);
        x.tells(0, 0, 1);
        x.forget();
        x.felt(2);
        x.tells(0, 1, 0);
        x.keep(0);
        x.rate(5, 0);
        x.type('s');
        x.clear();
        x.type('h');
        x.hall();
        c.due("known", x.now(5), 1);
        c.due("undone", x.undo(), 0);
        c.due("where", x.now(1), NONE);
        c.due("felt stays", x.count(4), 1);
        c.due("told stays", x.count(5), 1);
        c.due("text stays", x.count(6), 1);
        c.due("trace stays", x.trace(), 100001);
        c.due("image stays", x.again(0), 1);
    }

    private static void undoneRoundAgain() {
        c.about("UNDONE: steps behind what was undone");
        MindsByTen x = new MindsByTen();
        int minute = 0;
        for (int round = 0; round < 7; round++) {
            for (int i = 0; i < 7; i++) x.encores(3);
            for (int i = 0; i < 4; i++) x.undo();
            minute += 9;
            c.due("the minute", x.now(0), minute);
            c.due("known", x.now(5), round == 0 ? 3 : 6);
        }
        for (int i = 5; i >= 0; i--) {
            c.due("how many more", x.undo(), i);
            minute -= 3;
            c.due("the minute", x.now(0), minute);
        }
        c.due("none", x.undo(), STATE);
    }

    private static void undoneFrom999() {
        c.about("UNDONE: at MINUTE 999");
        MindsByTen x = Checks.in("s0 1;t0 0 0 1;");
        Checks.toMinute(x, 998);
        x.goes(0);
        c.due("at 999", x.takes(0), STATE);
        c.due("undone", x.undo(), 9);
        c.due("998", x.now(0), 998);
        x.undo();
        x.goes(0);
        c.due("taken ahead of 999", x.takes(0), 1);
    }
}
