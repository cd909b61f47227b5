/** The bounds that the document names for what she knows, whose things are, and laws (part 3, promises 18 to 23). */
public final class MindsBoundsTest {
    private static final int BAD = -1, FULL = -3, NONE = -9;

    private static final Checks c = new Checks();

    public static void main(String[] args) {
        numbersOfKnows();
        knowsNothing();
        knowsOne();
        knowsAlikeOnce();
        knowsByOthers();
        knowsMost();
        knowsTwoGroups();
        knowsWhatIsRead();
        numbersOfFelt();
        feltSix();
        waysOfNothing();
        waysOfEachMarks();
        waysOfUnlikeThings();
        moreFeltThanThings();
        numbersOfWhose();
        sureInAll();
        feltStays();
        numbersOfTells();
        tellsAlikeSeats();
        toldSix();
        nothingTold();
        lawOfOwners();
        lawOfNearest();
        lawOfLikeOnes();
        lawOfNext();
        allThatWasTold();
        forgets();
        c.end();
    }

    private static void knows(MindsByTen x, int twos, int fresh, int most) {
        c.due("twos", x.knows(0), twos);
        c.due("of no thing alone", x.knows(1), fresh);
        c.due("the most", x.knows(2), most);
    }

    /** All of at most four things, by their two topics each, are read. */
    private static MindsByTen read(String... topics) {
        StringBuilder text = new StringBuilder("s0 0;h4;");
        for (String two : topics) text.append("t0 0 ").append(two).append(';');
        MindsByTen x = Checks.in(text.toString());
        x.goes(0);
        for (int t = 0; t < topics.length; t++) x.takes(t);
        return x;
    }

    private static void numbersOfKnows() {
        c.about("knows: BAD");
        for (MindsByTen x : new MindsByTen[] {new MindsByTen(), read("0 1", "1 2")}) {
            c.due("below", x.knows(-1), BAD);
            c.due("above", x.knows(3), BAD);
            for (int n : Checks.FAR_OFF) c.due("far off", x.knows(n), BAD);
        }
    }

    private static void knowsNothing() {
        c.about("the most TOPICS that go together (1: none)");
        knows(new MindsByTen(), 0, 0, 1);
        knows(Checks.in("s0 0;t0 0 0 1;t0 0 1 2;"), 0, 0, 1);
        MindsByTen x = read("0 1");
        knows(x, 1, 0, 2);
        x.undo();
        knows(x, 0, 0, 1);
    }

    private static void knowsOne() {
        c.about("by THINGS that are READ their TOPICS are joined");
        for (int a = 0; a <= 5; a++) {
            for (int b = 0; b <= 5; b++) {
                if (a != b) knows(read(a + " " + b), 1, 0, 2);
            }
        }
    }

    private static void knowsAlikeOnce() {
        c.about("the two TOPICS of one THING that is READ: told twice, told the other way round");
        knows(read("2 4", "2 4"), 1, 0, 2);
        knows(read("2 4", "4 2"), 1, 0, 2);
        knows(read("2 4", "4 2", "2 4", "4 2"), 1, 0, 2);
        knows(read("2 4", "4 5", "4 2", "5 4"), 3, 1, 3);
        knows(read("2 4", "4 5", "5 2"), 3, 0, 3);
        knows(read("5 0", "0 5", "5 1"), 3, 1, 3);
    }

    private static void knowsByOthers() {
        c.about("she knows that they go together, if joined, or by others");
        knows(read("0 1", "1 2"), 3, 1, 3);
        knows(read("0 1", "1 2", "2 3"), 6, 3, 4);
        knows(read("0 1", "1 2", "2 3", "3 0"), 6, 2, 4);
        knows(read("0 1", "2 3", "1 2"), 6, 3, 4);
        knows(read("0 1", "2 3", "4 5", "1 2"), 7, 3, 4);
        knows(read("0 5", "1 5", "2 5", "3 5"), 10, 6, 5);
    }

    private static void knowsMost() {
        c.about("KNOWS at its most: four THINGS join five TOPICS");
        knows(read("0 1", "1 2", "2 3", "3 4"), 10, 6, 5);
        knows(read("4 3", "5 1", "2 3", "1 2"), 10, 6, 5);
        knows(read("5 4", "4 3", "3 2", "2 1"), 10, 6, 5);
    }

    private static void knowsTwoGroups() {
        c.about("topics that don't go together");
        knows(read("0 1", "2 3"), 2, 0, 2);
        knows(read("0 1", "2 3", "4 5"), 3, 0, 2);
        knows(read("0 1", "1 2", "3 4", "4 5"), 6, 2, 3);
        knows(read("0 1", "3 4", "4 5"), 4, 1, 3);
    }

    private static void knowsWhatIsRead() {
        c.about("KNOWS: READ, wherever it is");
        MindsByTen x = Checks.in("s0 0;s1 0;t0 0 0 1;t0 0 1 2;t1 0 2 3;");
        x.goes(0);
        x.takes(1);
        knows(x, 1, 0, 2);
        x.leaves(1);
        knows(x, 1, 0, 2);
        x.takes(0);
        x.goes(1);
        x.leaves(0);
        knows(x, 3, 1, 3);
        x.keep(0);
        x.takes(2);
        knows(x, 6, 3, 4);
        x.again(0);
        knows(x, 3, 1, 3);
    }

    private static void numbersOfFelt() {
        c.about("felt: BAD; MARKS (0 .. 31)");
        for (int marks = 0; marks <= 31; marks++) c.due("marks", new MindsByTen().felt(marks), 1);
        MindsByTen x = new MindsByTen();
        for (int marks : new int[] {-1, 32, 33, 63}) c.due("marks " + marks, x.felt(marks), BAD);
        for (int n : Checks.FAR_OFF) c.due("far off", x.felt(n), BAD);
        c.due("nothing is felt", x.count(4), 0);
        c.due("nothing to ask for", x.whose(0), BAD);
    }

    private static void feltSix() {
        c.about("FELT (6 at most)");
        MindsByTen x = Checks.in("s0 0;t0 31 0 1;");
        for (int i = 1; i <= 6; i++) {
            c.due("felt", x.felt(31), i);
            c.due("count", x.count(4), i);
        }
        for (int marks : new int[] {0, 31}) c.due("a seventh", x.felt(marks), FULL);
        c.due("six still", x.count(4), 6);
        c.due("the sixth", x.whose(5), NONE);
        c.due("no seventh", x.whose(6), BAD);
        c.due("forgot", x.forget(), 6);
        c.due("room again", x.felt(31), 1);
        c.due("the only one", x.whose(0), 0);
    }

    private static void waysOfNothing() {
        c.about("WAYS of nothing FELT");
        c.due("no things", new MindsByTen().whose(-1), 1);
        c.due("things", Checks.in("s0 0;t0 0 0 1;t0 0 0 1;").whose(-1), 1);
        MindsByTen x = new MindsByTen();
        x.felt(0);
        c.due("no things, one felt", x.whose(-1), 0);
        c.due("there are none", x.whose(0), NONE);
    }

    private static void waysOfEachMarks() {
        c.about("MARKS differing from those FELT in one of them at most");
        for (int marks = 0; marks <= 31; marks++) {
            MindsByTen x = Checks.in("s0 0;t0 " + marks + " 0 1;");
            for (int felt = 0; felt <= 31; felt++) {
                x.felt(felt);
                boolean fits = Integer.bitCount(marks ^ felt) <= 1;
                c.due(marks + " felt as " + felt, x.whose(-1), fits ? 1 : 0);
                c.due(marks + " felt as " + felt, x.whose(0), fits ? 0 : NONE);
                x.forget();
            }
        }
    }

    private static void waysOfUnlikeThings() {
        c.about("WAYS: of unlike THINGS");
        MindsByTen x = Checks.in("s0 0;" + "t0 5 0 1;".repeat(4));
        int[] ways = {1, 4, 12, 24, 24, 0, 0};
        for (int felt = 0; felt <= 6; felt++) {
            c.due("of four alike, felt " + felt, x.whose(-1), ways[felt]);
            x.felt(5);
        }
        MindsByTen y = Checks.in("s0 0;t0 0 0 1;t0 31 0 1;");
        y.felt(0);
        c.due("one", y.whose(-1), 1);
        y.felt(0);
        c.due("not twice the same", y.whose(-1), 0);
        c.due("there are none", y.whose(0), NONE);
    }

    private static void moreFeltThanThings() {
        c.about("WAYS: more FELT than there are THINGS");
        for (int things = 0; things <= 4; things++) {
            MindsByTen x = Checks.in("s0 0;" + "t0 0 0 1;".repeat(things));
            int ways = 1;
            for (int felt = 1; felt <= 6; felt++) {
                x.felt(0);
                ways *= Math.max(0, things - felt + 1);
                c.due(felt + " of " + things, x.whose(-1), ways);
                c.due("sure", x.whose(felt - 1), ways == 1 && things == 1 ? 0 : NONE);
            }
        }
    }

    private static void numbersOfWhose() {
        c.about("whose: BAD; WAYS (i = -1), the i-th (0 the first)");
        MindsByTen x = Checks.in("s0 0;t0 0 0 1;t0 31 0 1;t0 7 0 1;t0 24 0 1;");
        for (int felt = 0; felt <= 6; felt++) {
            for (int i = -2; i <= 7; i++) {
                c.holds(i + " of " + felt, (x.whose(i) == BAD) != (i >= -1 && i < felt));
            }
            for (int n : Checks.FAR_OFF) c.due("far off", x.whose(n), BAD);
            x.felt(0);
        }
    }

    private static void sureInAll() {
        c.about("SURE: which THING it is in all of them; NONE (not the same in all, there are none)");
        MindsByTen x = Checks.in("s0 0;t0 0 0 1;t0 1 0 1;t0 3 0 1;t0 28 0 1;");
        x.felt(28);
        c.due("sure of 3", x.whose(0), 3);
        x.felt(0);
        c.due("0 or 1", x.whose(1), NONE);
        c.due("3 still", x.whose(0), 3);
        x.felt(3);
        c.due("0, 2 or 0, 1 or 1, 2", x.whose(-1), 3);
        c.due("not the same", x.whose(1), NONE);
        c.due("not the same", x.whose(2), NONE);
        x.felt(2);
        c.due("0, 1, 2 or 1, 2, 0", x.whose(-1), 2);
        int[] sure = {3, NONE, NONE, NONE};
        for (int i = 0; i < 4; i++) c.due("sure of " + i, x.whose(i), sure[i]);
        x.forget();
        for (int marks : new int[] {19, 28, 0}) x.felt(marks);
        c.due("one way to place 19, two for 0", x.whose(-1), 2);
        c.due("sure of the first", x.whose(0), 2);
        c.due("sure of the second", x.whose(1), 3);
        c.due("not of the third", x.whose(2), NONE);
        x.felt(0);
        c.due("both ways round", x.whose(-1), 2);
        c.due("not of the fourth", x.whose(3), NONE);
        x.forget();
        x.felt(31);
        c.due("two apart from all", x.whose(-1), 0);
        c.due("there are none", x.whose(0), NONE);
    }

    private static void feltStays() {
        c.about("FELT is of no NOW: steps, undo(), again() don't change it");
        MindsByTen x = Checks.in("s0 0;t0 5 0 1;t0 6 0 1;");
        x.keep(0);
        x.felt(5);
        x.goes(0);
        x.takes(0);
        c.due("ways", x.whose(-1), 1);
        x.undo();
        x.again(0);
        c.due("ways", x.whose(-1), 1);
        c.due("sure", x.whose(0), 0);
    }

    private static void numbersOfTells() {
        c.about("tells: BAD, no such THING, SEATS");
        for (int seats = 1; seats <= 4; seats++) {
            for (int things = 0; things <= 4; things++) {
                MindsByTen x = Checks.in("s0 0;".repeat(seats) + "t0 0 0 1;".repeat(things));
                for (int n = -1; n <= 4; n++) {
                    boolean fine = things > 0 && seats > 1;
                    boolean seat = n >= 0 && n < seats;
                    c.holds("thing", (x.tells(n, 0, 1) != BAD) == (fine && n >= 0 && n < things));
                    c.holds("from", (x.tells(0, n, 0) != BAD) == (fine && seat && n != 0));
                    c.holds("to", (x.tells(0, 0, n) != BAD) == (fine && seat && n != 0));
                    x.forget();
                }
            }
        }
        MindsByTen x = Checks.in("s0 0;s1 0;t0 0 0 1;");
        for (int n : Checks.FAR_OFF) {
            c.due("far off", x.tells(n, 0, 1), BAD);
            c.due("far off", x.tells(0, n, 1), BAD);
            c.due("far off", x.tells(0, 0, n), BAD);
            c.due("far off, alike", x.tells(0, n, n), BAD);
        }
        c.due("nothing is told", x.count(5), 0);
    }

    private static void tellsAlikeSeats() {
        c.about("tells: BAD (alike SEATS, too)");
        MindsByTen x = Checks.in("s0 0;s0 0;s0 0;s0 0;t0 0 0 1;");
        for (int from = 0; from < 4; from++) {
            for (int to = 0; to < 4; to++) {
                c.due("from " + from + " to " + to, x.tells(0, from, to), from == to ? BAD : 1);
                x.forget();
            }
        }
    }

    private static void toldSix() {
        c.about("TOLD (6 at most)");
        MindsByTen x = Checks.in("s0 0;s1 0;t0 0 0 1;");
        for (int i = 1; i <= 6; i++) {
            c.due("told", x.tells(0, 1, 0), i);
            c.due("count", x.count(5), i);
        }
        for (int i = 0; i < 2; i++) c.due("a seventh", x.tells(0, 0, 1), FULL);
        c.due("six still", x.count(5), 6);
        c.due("the seventh does not count", x.fits(), 7);
        c.due("forgot", x.forget(), 6);
        c.due("room again", x.tells(0, 0, 1), 1);
        c.due("that counts", x.fits(), 6);
        for (int i = 0; i < 4; i++) x.tells(0, 1, 0);
        c.due("the sixth", x.tells(0, 1, 0), 6);
        c.due("all count", x.fits(), 6);
        x.forget();
        for (int i = 0; i < 5; i++) x.tells(0, 1, 0);
        c.due("five", x.fits(), 7);
        x.tells(0, 0, 1);
        c.due("the sixth counts", x.fits(), 6);
    }

    private static void nothingTold() {
        c.about("FITS of nothing TOLD");
        c.due("no seats", new MindsByTen().fits(), 7);
        c.due("one seat", Checks.in("s1 1;t0 0 0 1;").fits(), 7);
    }

    private static int fitsOf(MindsByTen x, int t, int from, int to) {
        x.forget();
        c.due("told", x.tells(t, from, to), 1);
        return x.fits();
    }

    private static boolean fits(MindsByTen x, int law, int t, int from, int to) {
        return (fitsOf(x, t, from, to) >> law & 1) == 1;
    }

    private static void lawOfOwners() {
        c.about("LAW 0: she leaves a THING with its OWNER");
        MindsByTen x = Checks.in("s0 0;s2 0;s5 0;s9 0;t0 0 0 1;t1 0 0 1;t2 0 0 1;t3 0 0 1;");
        for (int t = 0; t < 4; t++) {
            for (int from = 0; from < 4; from++) {
                for (int to = 0; to < 4; to++) {
                    if (from != to) c.holds(t + " to " + to, fits(x, 0, t, from, to) == (t == to));
                }
            }
        }
    }

    private static void lawOfNearest() {
        c.about("LAW 1: with the SEAT nearest to that where she took it, not that one");
        MindsByTen x = Checks.in("s0 0;s2 0;s5 1;s5 9;t0 0 0 1;");
        int[] nearest = {1, 0, 1, 2};
        for (int from = 0; from < 4; from++) {
            for (int to = 0; to < 4; to++) {
                if (from != to) c.holds(from + " to " + to, fits(x, 1, 0, from, to) == (to == nearest[from]));
            }
        }
        MindsByTen two = Checks.in("s0 0;s9 9;t0 0 0 1;");
        c.due("the only other one", fitsOf(two, 0, 0, 1), 6);
        c.due("the only other one", fitsOf(two, 0, 1, 0), 7);
        MindsByTen door = Checks.in("s1 0;s9 0;s5 0;t0 0 0 1;");
        c.holds("not the door", fits(door, 1, 0, 0, 2));
    }

    private static void lawOfLikeOnes() {
        c.about("LAW 1: of like ones the lowest");
        MindsByTen x = Checks.in("s5 5;s5 5;s5 5;s5 5;t0 0 0 1;");
        for (int from = 0; from < 4; from++) {
            for (int to = 0; to < 4; to++) {
                if (from != to) c.holds(from + " to " + to, fits(x, 1, 0, from, to) == (to == (from == 0 ? 1 : 0)));
            }
        }
        MindsByTen y = Checks.in("s9 9;s3 5;s5 5;s5 3;t0 0 0 1;");
        c.holds("1 and 3 are like", fits(y, 1, 0, 2, 1));
        c.holds("3 is not the lowest", !fits(y, 1, 0, 2, 3));
        MindsByTen z = Checks.in("s9 9;s3 5;s5 5;s5 4;t0 0 0 1;");
        c.holds("3 is nearer", fits(z, 1, 0, 2, 3));
        c.holds("1 is not", !fits(z, 1, 0, 2, 1));
    }

    private static void lawOfNext() {
        c.about("LAW 2: with the next SEAT by numbers, round again from 0");
        for (int seats = 2; seats <= 4; seats++) {
            MindsByTen x = Checks.in("s1 1;s4 5;s9 9;s0 7;".substring(0, 5 * seats) + "t0 0 0 1;");
            for (int from = 0; from < seats; from++) {
                for (int to = 0; to < seats; to++) {
                    if (from != to) {
                        c.holds(from + " to " + to, fits(x, 2, 0, from, to) == (to == (from + 1) % seats));
                    }
                }
            }
        }
    }

    private static void allThatWasTold() {
        c.about("FITS: LAWS by which all that was TOLD is so");
        MindsByTen x = Checks.in("s0 0;s1 0;s2 0;s9 0;t0 0 0 1;t1 0 0 1;t3 0 0 1;");
        x.tells(1, 0, 1);
        c.due("by all", x.fits(), 7);
        x.tells(0, 1, 0);
        c.due("not by the next", x.fits(), 3);
        x.tells(2, 0, 3);
        c.due("not by the nearest", x.fits(), 1);
        x.tells(2, 3, 1);
        c.due("by none", x.fits(), 0);
        x.tells(1, 0, 1);
        c.due("by none still", x.fits(), 0);
        x.keep(0);
        x.goes(0);
        x.undo();
        x.again(0);
        c.due("steps do not matter", x.count(5), 5);
    }

    private static void forgets() {
        c.about("forget: Nothing was FELT, TOLD: how much both were");
        for (int felt = 0; felt <= 6; felt++) {
            for (int told = 0; told <= 6; told++) {
                MindsByTen x = Checks.in("s0 0;s1 0;t0 0 0 1;");
                for (int i = 0; i < felt; i++) x.felt(i);
                for (int i = 0; i < told; i++) x.tells(0, 0, 1);
                c.due(felt + " and " + told, x.forget(), felt + told);
                c.due("felt", x.count(4), 0);
                c.due("told", x.count(5), 0);
                c.due("none", x.forget(), 0);
                c.same("as if nothing", Probe.seen(x), Probe.seen(Checks.in("s0 0;s1 0;t0 0 0 1;")));
            }
        }
    }
}
