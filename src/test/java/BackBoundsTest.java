/** The bounds that the document names for the ways back and what can be read (part 3, promises 13 to 17), a sentence each. */
public final class BackBoundsTest {
    private static final int BAD = -1, STATE = -2, NONE = -9;
    /** A row of seats: 1 at 3, 0 at 5, 2 at 7. */
    private static final String ROW = "s5 0;s3 0;s7 0;";

    private static final Checks c = new Checks();

    public static void main(String[] args) {
        numbersOfBack();
        nothingAstray();
        oneAstray();
        fewestByHands();
        longestBack();
        minute999DoesNotMatter();
        handsFullOnTheWay();
        stepLowestSeat();
        stepGoneAheadOfTaken();
        stepTakenAheadOfLeft();
        stepLowestThing();
        stepLeft();
        stepNotTheFirstOne();
        stepOfNoMinutes();
        stepsLeadBack();
        nothingIsChanged();
        timeLeft();
        seeAtTen();
        seeByEachTen();
        seeThoseThatAre();
        seeNotEvenByBack();
        seeOwnersAway();
        numbersOfSeenBy();
        seenByAsManyAsThereAre();
        seenByThoseThatAre();
        seenByHands();
        seenFromTheDoor();
        numbersOfOdds();
        oddsOfNone();
        oddsAtTheEnds();
        oddsOfAll();
        c.end();
    }

    private static void numbersOfBack() {
        c.about("back: BAD");
        MindsByTen x = Checks.in(ROW + "t0 0 0 1;");
        c.due("below", x.back(-1), BAD);
        c.due("above", x.back(2), BAD);
        for (int n : Checks.FAR_OFF) c.due("far off", x.back(n), BAD);
        c.due("lowest", x.back(0), 0);
        c.due("highest", x.back(1), NONE);
    }

    private static void nothingAstray() {
        c.about("NONE (all are with them already)");
        MindsByTen x = Checks.in(ROW + "t0 0 0 1;t1 0 0 1;t2 0 0 1;");
        for (int s = 0; s < 3; s++) {
            c.due("back", x.back(0), 0);
            c.due("step", x.back(1), NONE);
            x.goes(s);
            x.takes(s);
            c.due("one to leave", x.back(0), 1);
            c.due("to leave", x.back(1), 20 + s);
            x.leaves(s);
        }
        c.due("back", x.back(0), 0);
        c.due("step", x.back(1), NONE);
        c.due("no things", Checks.in(ROW).back(1), NONE);
        c.due("no things", Checks.in(ROW).back(0), 0);
        c.due("no seats", new MindsByTen().back(1), NONE);
    }

    private static void oneAstray() {
        c.about("BACK of one that is away");
        MindsByTen x = Checks.in(ROW + "t0 0 0 1;");
        x.goes(0);
        x.takes(0);
        x.goes(1);
        c.due("go, leave", x.back(0), 3);
        c.due("go", x.back(1), 0);
        x.leaves(0);
        c.due("take, go, leave", x.back(0), 4);
        c.due("take", x.back(1), 10);
        x.goes(2);
        c.due("go, take, go, leave", x.back(0), 4 + 1 + 2 + 1);
        c.due("by its owner takes no more than to it", x.back(1), 0);
    }

    /** Four of seat 0, all left at seat 1, she at seat 1. */
    private static MindsByTen fourAway(String seats, int hands) {
        MindsByTen x = Checks.in(seats + "t0 0 0 1;t0 0 1 2;t0 0 2 3;t0 0 3 4;h" + hands + ";");
        for (int t = 0; t < 4; t++) {
            x.goes(0);
            x.takes(t);
            x.goes(1);
            x.leaves(t);
        }
        return x;
    }

    private static void fewestByHands() {
        c.about("HANDS: how many THINGS she can have with her, in BACK");
        int[] trips = {0, 4, 2, 2, 1};
        for (int hands = 1; hands <= 4; hands++) {
            MindsByTen x = fourAway("s0 0;s9 0;", hands);
            c.due("hands " + hands, x.back(0), 8 + 9 * (2 * trips[hands] - 1));
            c.due("take the lowest", x.back(1), 10);
        }
    }

    private static void longestBack() {
        c.about("BACK at its longest");
        MindsByTen x = fourAway("s0 0;s9 9;", 1);
        c.due("from there", x.back(0), 8 + 18 * 7);
        x.goes(0);
        c.due("from the other end", x.back(0), 8 + 18 * 8);
        c.due("go there", x.back(1), 1);
        c.due("all are read", x.seenBy(4), 8 + 18 * 8);
        c.due("left", x.left(), 60 - (8 * 18 + 8) - (8 + 18 * 8));
    }

    private static void minute999DoesNotMatter() {
        c.about("MINUTE 999 does not matter");
        for (int minute = 998; minute <= 999; minute++) {
            MindsByTen x = fourAway("s0 0;s9 9;", 1);
            Checks.toMinute(x, minute);
            c.due("back", x.back(0), 8 + 18 * 7);
            c.due("step", x.back(1), 10);
            c.due("left", x.left(), 60 - minute - 8 - 18 * 7);
            c.due("see", x.see(), NONE);
            for (int n = 0; n <= 4; n++) c.due("seen by", x.seenBy(n), 8 + 18 * 7);
        }
        MindsByTen x = Checks.in("s9 9;t0 0 0 1;");
        Checks.toMinute(x, 999);
        c.due("from the door", x.seenBy(1), 20);
        c.due("at last refused", x.goes(0), STATE);
    }

    private static void handsFullOnTheWay() {
        c.about("BACK: HANDS are full, so one is left ahead of the other's being taken");
        MindsByTen x = Checks.in("s0 0;s9 0;t0 0 0 1;t1 0 0 1;h1;");
        x.goes(0);
        x.takes(0);
        x.goes(1);
        x.leaves(0);
        x.takes(1);
        c.due("leave, take, go, leave", x.back(0), 1 + 1 + 9 + 1);
        c.due("one hand: leave", x.back(1), 21);
        x.goes(0);
        c.due("go, leave, take, go, leave", x.back(0), 9 + 1 + 1 + 9 + 1);
        MindsByTen y = Checks.in("s0 0;s9 0;t0 0 0 1;t1 0 0 1;h2;");
        y.goes(0);
        y.takes(0);
        y.goes(1);
        y.takes(1);
        y.goes(0);
        y.leaves(1);
        y.goes(1);
        y.leaves(0);
        c.due("take, go, leave, take, go, leave", y.back(0), 1 + 9 + 1 + 1 + 9 + 1);
        c.due("take", y.back(1), 10);
    }

    private static void stepLowestSeat() {
        c.about("the first such of GONE to a SEAT (its number, the lowest)");
        MindsByTen x = Checks.in(ROW + "t1 0 0 1;t2 0 0 1;");
        x.goes(1);
        x.takes(0);
        x.goes(2);
        x.takes(1);
        x.goes(0);
        c.due("either way round", x.back(0), 2 + 1 + 4 + 1);
        c.due("the lower seat", x.back(1), 1);
        MindsByTen y = Checks.in("s3 0;s5 0;s5 2;s5 4;t0 0 0 1;");
        y.goes(0);
        y.takes(0);
        y.goes(3);
        c.due("by 0, by 1 and 0, by 2 and 0", y.back(0), 6 + 1);
        c.due("the lowest", y.back(1), 0);
        MindsByTen z = Checks.in("s5 0;s5 2;s5 4;s3 0;t3 0 0 1;");
        z.goes(3);
        z.takes(0);
        z.goes(2);
        c.due("by 0 and 3 takes no more than to 3", z.back(1), 0);
        z.goes(1);
        c.due("still", z.back(1), 0);
        z.goes(0);
        c.due("only 3 is on", z.back(1), 3);
    }

    private static void stepGoneAheadOfTaken() {
        c.about("GONE ahead of TAKEN, where both take no more");
        MindsByTen x = Checks.in(ROW + "t2 0 0 1;t0 0 0 1;");
        x.goes(2);
        x.takes(0);
        x.goes(0);
        x.leaves(0);
        x.takes(1);
        x.goes(1);
        x.leaves(1);
        x.goes(0);
        c.due("fewest", x.back(0), 2 + 1 + 2 + 1 + 1 + 2 + 1);
        c.due("go first", x.back(1), 1);
        x.takes(0);
        c.due("taking takes no more", x.back(0), 9);
    }

    private static void stepTakenAheadOfLeft() {
        c.about("TAKEN ahead of LEFT, where both take no more");
        String things = "t2 0 0 1;t0 0 0 1;";
        for (int hands = 1; hands <= 2; hands++) {
            MindsByTen x = Checks.in(ROW + things + "h" + hands + ";");
            x.goes(2);
            x.takes(0);
            x.goes(0);
            x.leaves(0);
            x.takes(1);
            c.due("leave, take, go, leave", x.back(0), 1 + 1 + 2 + 1);
            c.due("hands " + hands, x.back(1), hands == 1 ? 21 : 10);
        }
    }

    private static void stepLowestThing() {
        c.about("TAKEN (10 and the THING), LEFT (20 and the THING): the first");
        MindsByTen x = fourAway("s0 0;s9 0;", 4);
        for (int t = 0; t < 4; t++) {
            c.due("take", x.back(1), 10 + t);
            x.takes(t);
        }
        c.due("go", x.back(1), 0);
        x.goes(0);
        for (int t = 0; t < 4; t++) {
            c.due("leave", x.back(1), 20 + t);
            x.leaves(t);
        }
        c.due("none", x.back(1), NONE);
        MindsByTen y = fourAway("s0 0;s9 0;", 4);
        y.takes(0);
        y.takes(2);
        c.due("of those that are there", y.back(1), 11);
        y.takes(1);
        c.due("the last", y.back(1), 13);
    }

    private static void stepLeft() {
        c.about("LEFT where its OWNER is, not where another is");
        MindsByTen x = Checks.in(ROW + "t1 0 0 1;t2 0 0 1;");
        x.goes(1);
        x.takes(0);
        x.goes(2);
        x.takes(1);
        c.due("its own", x.back(1), 21);
        x.leaves(1);
        c.due("on to the other: by 0 takes no more", x.back(1), 0);
        x.goes(1);
        c.due("its own", x.back(1), 20);
    }

    private static void stepNotTheFirstOne() {
        c.about("so that it takes no more");
        MindsByTen x = Checks.in("s0 0;s0 9;s9 9;s9 0;t3 0 0 1;");
        x.goes(3);
        x.takes(0);
        x.goes(2);
        c.due("not by lower seats", x.back(1), 3);
        x.leaves(0);
        c.due("not away from it", x.back(1), 10);
        x.goes(1);
        c.due("not to 0", x.back(1), 2);
    }

    private static void stepOfNoMinutes() {
        c.about("two may be at one: such a GONE takes no more");
        MindsByTen x = Checks.in("s4 4;s4 4;t0 0 0 1;");
        x.goes(0);
        x.takes(0);
        c.due("go ahead of leave", x.back(1), 1);
        c.due("one minute", x.back(0), 1);
        x.goes(1);
        c.due("and here again", x.back(1), 0);
        c.due("one minute", x.back(0), 1);
        x.leaves(0);
        c.due("take, go, leave", x.back(0), 2);
        x.takes(0);
        x.goes(0);
        x.leaves(0);
        c.due("none", x.back(1), NONE);
    }

    private static void stepsLeadBack() {
        c.about("The STEP she should begin with, so that it takes no more: by it BACK is less by what it took");
        for (int hands = 1; hands <= 4; hands++) {
            MindsByTen x = fourAway("s1 1;s9 4;s3 8;", hands);
            x.goes(2);
            int steps = 0;
            while (x.back(1) != NONE && steps < 40) {
                int before = x.back(0);
                int minute = x.now(0);
                int step = x.back(1);
                int answer = step >= 20 ? x.leaves(step - 20) : step >= 10 ? x.takes(step - 10) : x.goes(step);
                c.holds("can be done", answer >= 0);
                c.due("takes no more", x.now(0) - minute + x.back(0), before);
                steps++;
            }
            c.due("all are back", x.now(3), 0);
        }
    }

    private static void nothingIsChanged() {
        c.about("As things are NOW; nothing is changed");
        MindsByTen x = fourAway("s0 0;s9 0;", 2);
        String before = Probe.now(x);
        x.back(0);
        x.back(1);
        x.left();
        x.see();
        for (int n = -1; n <= 5; n++) x.seenBy(n);
        x.odds(3, 2, 0);
        x.knows(0);
        x.whose(-1);
        x.fits();
        c.same("as it was", Probe.now(x), before);
        c.same("all", Probe.whole(x), Probe.whole(fourAway("s0 0;s9 0;", 2)));
    }

    private static void timeLeft() {
        c.about("TEN less THE MINUTE and BACK (below 0: it is too late)");
        for (int ten : new int[] {1, 2, 11, 12, 13, 199, 200}) {
            MindsByTen x = Checks.in("s9 0;s9 9;t0 0 0 1;e" + ten + ";");
            c.due("at first", x.left(), ten);
            x.goes(0);
            c.due("less the minute", x.left(), ten - 9);
            x.takes(0);
            c.due("less back", x.left(), ten - 11);
            x.leaves(0);
            c.due("back", x.left(), ten - 11);
            c.due("see", x.see(), ten >= 11 ? 1 : NONE);
            x.encores(1);
            c.due("less an encore", x.left(), ten - 12);
            c.due("see", x.see(), ten >= 12 ? 1 : NONE);
            Checks.toMinute(x, 999);
            c.due("the least", x.left(), ten - 999);
        }
    }

    private static void seeAtTen() {
        c.about("all being with their OWNERS at TEN, or ahead of it");
        for (int ten = 19; ten <= 22; ten++) {
            c.due("ten " + ten, Checks.in("s9 9;t0 0 0 1;e" + ten + ";").see(), ten >= 20 ? 1 : 0);
        }
        MindsByTen x = Checks.in("s0 0;t0 0 0 1;e1;");
        c.due("not by 1", x.see(), 0);
        x = Checks.in("s0 0;t0 0 0 1;e2;");
        c.due("by 2", x.see(), 1);
        x.encores(1);
        c.due("a minute later", x.see(), 0);
        x.encores(1);
        c.due("at ten", x.see(), 0);
        x.encores(1);
        c.due("behind ten", x.see(), NONE);
        c.due("no things, at ten", emptyAt(60).see(), 0);
        c.due("no things, behind ten", emptyAt(61).see(), NONE);
    }

    private static MindsByTen emptyAt(int minute) {
        MindsByTen x = new MindsByTen();
        Checks.toMinute(x, minute);
        return x;
    }

    private static void seeByEachTen() {
        c.about("SEE: the most THINGS that can be READ");
        // one at the door's place, then 3, 5 and 4 on
        String hall = "s0 0;s3 0;s3 5;s3 9;t0 0 0 1;t1 0 0 1;t2 0 0 1;t3 0 0 1;";
        int[] ends = {0, 2, 7, 14, 20};
        for (int ten = 1; ten <= 30; ten++) {
            int most = 0;
            for (int n = 1; n <= 4; n++) if (ends[n] <= ten) most = n;
            c.due("ten " + ten, Checks.in(hall + "e" + ten + ";").see(), most);
        }
        MindsByTen x = Checks.in(hall);
        for (int n = 0; n <= 4; n++) c.due("seen by " + n, x.seenBy(n), ends[n]);
        for (int minute = 0; minute <= 61; minute++) {
            int most = NONE;
            for (int n = 0; n <= 4; n++) if (minute + ends[n] <= 60) most = n;
            c.due("minute " + minute, x.see(), most);
            x.encores(1);
        }
    }

    private static void seeThoseThatAre() {
        c.about("SEE: those that are, too");
        MindsByTen x = Checks.in("s0 0;s9 9;t0 0 0 1;t0 0 0 1;t1 0 0 1;t1 0 0 1;e5;");
        c.due("two by five", x.see(), 2);
        x.goes(0);
        x.takes(0);
        x.leaves(0);
        c.due("one is, one can be", x.see(), 2);
        x.takes(1);
        c.due("one to leave", x.see(), 2);
        x.leaves(1);
        c.due("both are", x.see(), 2);
        x.encores(1);
        c.due("at ten", x.see(), 2);
        x.encores(1);
        c.due("behind ten", x.see(), NONE);
    }

    private static void seeNotEvenByBack() {
        c.about("SEE: NONE (not even by BACK)");
        MindsByTen x = Checks.in("s0 0;s9 0;t0 0 0 1;t1 0 0 1;e20;");
        x.goes(0);
        x.takes(0);
        x.goes(1);
        c.due("just by back, none more", x.see(), 1);
        c.due("left", x.left(), 0);
        x.encores(1);
        c.due("one beyond", x.see(), NONE);
        c.due("left", x.left(), -1);
        x.undo();
        x.takes(1);
        c.due("one beyond by a thing more", x.see(), NONE);
        c.due("left", x.left(), -2);
    }

    private static void seeOwnersAway() {
        c.about("SEE: all being with their OWNERS, not only what is READ on the way");
        MindsByTen x = Checks.in("s0 0;s9 0;t0 0 0 1;t1 0 0 1;t1 0 0 1;h1;e22;");
        x.goes(0);
        x.takes(0);
        x.goes(1);
        x.leaves(0);
        // eleven gone by; take, go, leave is eleven: those of this seat would be two each
        c.due("by back alone", x.see(), 1);
        MindsByTen y = Checks.in("s0 0;s9 0;t0 0 0 1;t1 0 0 1;t1 0 0 1;h1;e24;");
        y.goes(0);
        y.takes(0);
        y.goes(1);
        y.leaves(0);
        c.due("one more", y.see(), 2);
        y.encores(1);
        c.due("none more", y.see(), 1);
    }

    private static void numbersOfSeenBy() {
        c.about("seenBy: BAD; n (0 .. 4)");
        for (int things = 0; things <= 4; things++) {
            MindsByTen x = Checks.in("s1 0;" + "t0 0 0 1;".repeat(things));
            c.due("below", x.seenBy(-1), BAD);
            c.due("above", x.seenBy(5), BAD);
            for (int n : Checks.FAR_OFF) c.due("far off", x.seenBy(n), BAD);
        }
        c.due("no seats", new MindsByTen().seenBy(5), BAD);
        c.due("no seats", new MindsByTen().seenBy(-1), BAD);
    }

    private static void seenByAsManyAsThereAre() {
        c.about("SEEN BY: NONE (there are not so many THINGS)");
        for (int things = 0; things <= 4; things++) {
            MindsByTen x = Checks.in("s1 0;" + "t0 0 0 1;".repeat(things));
            for (int n = 0; n <= 4; n++) {
                c.due(n + " of " + things, x.seenBy(n), n > things ? NONE : n == 0 ? 0 : 1 + 2 * n);
            }
        }
    }

    private static void seenByThoseThatAre() {
        c.about("SEEN BY: n THINGS at least are READ");
        MindsByTen x = Checks.in("s0 0;" + "t0 0 0 1;".repeat(4) + "h4;");
        x.goes(0);
        for (int t = 0; t < 4; t++) {
            x.takes(t);
            for (int n = 0; n <= 4; n++) {
                c.due(n + " with " + (t + 1), x.seenBy(n), t + 1 + 2 * Math.max(0, n - t - 1));
            }
        }
        for (int t = 0; t < 4; t++) x.leaves(t);
        for (int n = 0; n <= 4; n++) c.due("all are read", x.seenBy(n), 0);
        x.undo();
        for (int n = 0; n <= 4; n++) c.due("one to leave", x.seenBy(n), 1);
    }

    private static void seenByHands() {
        c.about("SEEN BY: HANDS are full");
        for (int hands = 1; hands <= 2; hands++) {
            MindsByTen x = Checks.in("s0 0;s9 0;t0 0 0 1;t1 0 0 1;h" + hands + ";");
            x.goes(0);
            x.takes(0);
            x.goes(1);
            // with one hand: leave, take, leave, take, go, leave; with two: take, leave, go, leave
            c.due("hands " + hands, x.seenBy(2), hands == 1 ? 4 + 10 : 2 + 10);
            c.due("by one", x.seenBy(1), 10);
            c.due("back", x.back(0), 10);
        }
    }

    private static void seenFromTheDoor() {
        c.about("SEEN BY, SEE from the DOOR: whichever SEAT is the first");
        for (int first = 0; first < 4; first++) {
            StringBuilder text = new StringBuilder();
            for (int s = 0; s < 4; s++) text.append(s == first ? "s2 1;" : "s9 " + (5 + s) + ";");
            for (int s = 0; s < 4; s++) text.append("t").append(s).append(" 0 0 1;");
            for (int ten = 4; ten <= 5; ten++) {
                MindsByTen x = Checks.in(text + "e" + ten + ";");
                c.due("back", x.back(0), 0);
                c.due("nearest: seat " + first, x.seenBy(1), 3 + 2);
                c.due("by " + ten, x.see(), ten == 5 ? 1 : 0);
                int second = first == 0 ? 1 : 0;
                c.due("two", x.seenBy(2), 3 + 2 + 7 + 4 + second + 2);
            }
        }
    }

    /** An object with so many strays of four things, she with hands full of them. */
    private static MindsByTen astray(int strays) {
        MindsByTen x = Checks.in("s0 0;s1 0;" + "t0 0 0 1;".repeat(4) + "h4;");
        x.goes(0);
        for (int t = 0; t < strays; t++) x.takes(t);
        x.goes(1);
        if (strays > 1) x.leaves(1);
        c.due("strays", x.now(3), (1 << strays) - 1);
        return x;
    }

    private static void odds(MindsByTen x, int tenths, int k, long upper, long lower) {
        c.due("upper of " + tenths + " " + k, x.odds(tenths, k, 0), upper);
        c.due("lower of " + tenths + " " + k, x.odds(tenths, k, 1), lower);
    }

    private static void numbersOfOdds() {
        c.about("odds: BAD; x (0 .. 10), k (0 .. 4)");
        MindsByTen x = astray(2);
        for (int tenths = -1; tenths <= 11; tenths++) {
            for (int k = -1; k <= 5; k++) {
                boolean fine = tenths >= 0 && tenths <= 10 && k >= 0 && k <= 4;
                c.holds(tenths + " " + k, (x.odds(tenths, k, 0) == BAD) != fine);
                c.holds(tenths + " " + k, (x.odds(tenths, k, 1) == BAD) != fine);
            }
        }
        c.due("below", x.odds(5, 1, -1), BAD);
        c.due("above", x.odds(5, 1, 2), BAD);
        for (int n : Checks.FAR_OFF) {
            c.due("far off", x.odds(n, 1, 0), BAD);
            c.due("far off", x.odds(5, n, 0), BAD);
            c.due("far off", x.odds(5, 1, n), BAD);
        }
    }

    private static void oddsOfNone() {
        c.about("ODDS: no STRAYS");
        for (MindsByTen x : new MindsByTen[] {new MindsByTen(), Checks.in("s1 1;"), astray(0)}) {
            for (int tenths = 0; tenths <= 10; tenths++) {
                for (int k = 0; k <= 4; k++) odds(x, tenths, k, 1, 1);
            }
        }
    }

    private static void oddsAtTheEnds() {
        c.about("ODDS: by 0 of 10, by 10 of 10");
        for (int strays = 0; strays <= 4; strays++) {
            MindsByTen x = astray(strays);
            for (int k = 0; k <= 4; k++) {
                odds(x, 0, k, 1, 1);
                odds(x, 10, k, k >= strays ? 1 : 0, 1);
            }
        }
        MindsByTen x = astray(4);
        odds(x, 1, 0, 6561, 10000);
        odds(x, 9, 0, 1, 10000);
        odds(x, 9, 3, 3439, 10000);
        odds(x, 1, 3, 9999, 10000);
        odds(x, 5, 0, 1, 16);
    }

    private static void oddsOfAll() {
        c.about("ODDS: k at most do, in least terms");
        int[][] choose = {{1}, {1, 1}, {1, 2, 1}, {1, 3, 3, 1}, {1, 4, 6, 4, 1}};
        for (int strays = 1; strays <= 4; strays++) {
            MindsByTen x = astray(strays);
            for (int tenths = 0; tenths <= 10; tenths++) {
                long some = 0;
                for (int k = 0; k <= 4; k++) {
                    if (k <= strays) some += choose[strays][k] * power(tenths, k) * power(10 - tenths, strays - k);
                    long divisor = java.math.BigInteger.valueOf(some).gcd(java.math.BigInteger.valueOf(power(10, strays))).longValue();
                    odds(x, tenths, k, some / divisor, power(10, strays) / divisor);
                }
            }
        }
    }

    private static long power(long base, int n) {
        long power = 1;
        for (int i = 0; i < n; i++) power *= base;
        return power;
    }
}
