/** The bounds that the document names for kinds, images, counts and the trace (part 4, promises 24 to 28). */
public final class KindsBoundsTest {
    private static final int BAD = -1, STATE = -2, NONE = -9, NO = -1000000;
    private static final int[] ADDED = {1, 11, 101, 1011, 10101, 100001};

    private static final Checks c = new Checks();

    public static void main(String[] args) {
        numbersOfRate();
        rateOfThing();
        rateOfComb();
        rateOfRoom();
        rateOfCurate();
        rateOfBishop();
        rateOfTwin();
        ratesChangeNothingElse();
        numbersOfImages();
        noneKept();
        keptAnew();
        imagesApart();
        imageKeepsNow();
        imageKeepsNothingElse();
        nothingUndoneBehindAgain();
        keepChangesNothing();
        againMoreThanOnce();
        imagesAreGone();
        numbersOfCount();
        countsAtTheEnds();
        traceOfEach();
        traceIsLong();
        traceGoesOn();
        c.end();
    }

    private static void numbersOfRate() {
        c.about("rate: NO, no such KIND, THING");
        for (int things = 0; things <= 4; things++) {
            MindsByTen x = Checks.in("s0 0;" + "t0 0 0 1;".repeat(things));
            long trace = 0;
            for (int kind = -1; kind <= 6; kind++) {
                for (int t = -1; t <= 4; t++) {
                    boolean fine = kind >= 0 && kind <= 5 && t >= 0 && t < things;
                    c.holds("kind " + kind + " of " + t, (x.rate(kind, t) == NO) != fine);
                    if (fine) trace += ADDED[kind];
                    c.due("trace", x.trace(), trace);
                }
            }
            for (int n : Checks.FAR_OFF) {
                c.due("far off", x.rate(n, 0), NO);
                c.due("far off", x.rate(0, n), NO);
            }
            c.due("trace", x.trace(), trace);
        }
    }

    private static void rateOfThing() {
        c.about("THING how many MARKS it has");
        for (int marks = 0; marks <= 31; marks++) {
            MindsByTen x = Checks.in("s9 9;t0 " + marks + " 4 5;");
            c.due("marks " + marks, x.rate(0, 0), Integer.bitCount(marks));
            c.due("trace", x.trace(), 1);
        }
    }

    private static void rateOfComb() {
        c.about("COMB up, and the way from where it is (with her: from where she is) to its OWNER");
        MindsByTen x = Checks.in("s0 0;s9 9;s9 0;t1 31 0 1;");
        c.due("with its owner, she at the door", x.rate(1, 0), 5);
        x.goes(0);
        c.due("she elsewhere", x.rate(1, 0), 5);
        x.goes(1);
        x.takes(0);
        c.due("with her, there", x.rate(1, 0), 5);
        x.goes(2);
        c.due("with her", x.rate(1, 0), 5 + 9);
        x.goes(0);
        c.due("with her, farther", x.rate(1, 0), 5 + 18);
        x.leaves(0);
        c.due("left", x.rate(1, 0), 5 + 18);
        x.goes(1);
        c.due("she at its owner's", x.rate(1, 0), 5 + 18);
        c.due("trace", x.trace(), 7 * 11);
    }

    private static void rateOfRoom() {
        c.about("ROOM up less both TOPICS");
        c.due("the least", Checks.in("s0 0;t0 0 4 5;").rate(2, 0), -9);
        c.due("the most", Checks.in("s0 0;t0 31 0 1;").rate(2, 0), 4);
        c.due("either first", Checks.in("s0 0;t0 7 5 1;").rate(2, 0), -3);
        c.due("nought", Checks.in("s0 0;t0 7 1 2;").rate(2, 0), 0);
    }

    private static void rateOfCurate() {
        c.about("CURATE twice up (COMB)");
        MindsByTen x = Checks.in("s0 0;s9 9;t1 31 0 1;t0 0 0 1;");
        c.due("nought", x.rate(3, 1), 0);
        c.due("no way", x.rate(3, 0), 10);
        x.goes(1);
        x.takes(0);
        x.goes(0);
        c.due("the most", x.rate(3, 0), 2 * (5 + 18));
        c.due("each body once", x.trace(), 3 * 1011);
    }

    private static void rateOfBishop() {
        c.about("BISHOP up (ROOM), and its number");
        MindsByTen x = Checks.in("s0 0;" + "t0 0 4 5;".repeat(4));
        for (int t = 0; t < 4; t++) c.due("number " + t, x.rate(4, t), t - 9);
        c.due("each body once", x.trace(), 4 * 10101);
    }

    private static void rateOfTwin() {
        c.about("TWIN up (THING), and THE MINUTE");
        MindsByTen x = Checks.in("s0 0;s9 0;t0 31 4 5;");
        c.due("minute 0", x.rate(5, 0), 5);
        x.goes(1);
        c.due("minute 9", x.rate(5, 0), 14);
        Checks.toMinute(x, 999);
        c.due("minute 999", x.rate(5, 0), 1004);
        c.due("each body once", x.trace(), 3 * 100001);
    }

    private static void ratesChangeNothingElse() {
        c.about("rate: THE TRACE alone changes");
        MindsByTen x = Checks.played();
        for (int kind = 0; kind < 6; kind++) x.rate(kind, 1);
        MindsByTen twin = Checks.played();
        c.due("trace", x.trace() - twin.trace(), 111226);
        c.same("nothing else", Probe.withoutTrace(Probe.whole(x)), Probe.withoutTrace(Probe.whole(twin)));
    }

    private static void numbersOfImages() {
        c.about("IMAGES 0, 1: BAD");
        MindsByTen x = Checks.played();
        for (int image : new int[] {-1, 2, 3}) {
            c.due("keep", x.keep(image), BAD);
            c.due("again", x.again(image), BAD);
        }
        for (int image : Checks.FAR_OFF) {
            c.due("keep, far off", x.keep(image), BAD);
            c.due("again, far off", x.again(image), BAD);
        }
        c.due("keep 0", x.keep(0), 15);
        c.due("keep 1", x.keep(1), 15);
        c.due("again 1", x.again(1), 15);
        c.due("again 0", x.again(0), 15);
    }

    private static void noneKept() {
        c.about("again: STATE, none was kept");
        MindsByTen x = Checks.in("s1 0;");
        c.due("0", x.again(0), STATE);
        c.due("1", x.again(1), STATE);
        x.keep(1);
        c.due("0 still", x.again(0), STATE);
        c.due("1", x.again(1), 0);
        MindsByTen y = Checks.in("s1 0;");
        y.keep(0);
        c.due("1 still", y.again(1), STATE);
        c.due("0", y.again(0), 0);
    }

    private static void keptAnew() {
        c.about("keep: a new IMAGE in the place of the old one");
        MindsByTen x = Checks.in("s1 0;s2 0;");
        c.due("at the door", x.keep(0), 0);
        x.goes(1);
        c.due("at 1", x.keep(0), 2);
        x.goes(0);
        c.due("the newer", x.again(0), 2);
        c.due("where", x.now(1), 1);
    }

    private static void imagesApart() {
        c.about("IMAGES 0, 1 are two");
        MindsByTen x = Checks.in("s1 0;s2 0;t0 0 0 1;t1 0 0 1;");
        x.keep(0);
        String first = Probe.now(x);
        x.goes(1);
        x.takes(1);
        x.goes(0);
        x.leaves(1);
        x.encores(30);
        x.keep(1);
        x.takes(0);
        x.again(1);
        String second = Probe.now(x);
        c.due("minute", x.now(0), 35);
        x.again(0);
        c.same("the first", Probe.now(x), first);
        x.goes(0);
        x.again(1);
        c.same("the second", Probe.now(x), second);
    }

    private static void imageKeepsNow() {
        c.about("THE MINUTE, where she is, where THINGS are, what is READ");
        MindsByTen x = Checks.in("s1 0;s2 0;t0 0 0 1;t1 0 0 1;t0 0 0 1;t0 0 0 1;h3;");
        x.keep(1);
        x.goes(0);
        x.takes(0);
        x.takes(3);
        x.goes(1);
        x.leaves(3);
        x.takes(1);
        c.due("kept", x.keep(0), 6);
        x.leaves(1);
        x.takes(3);
        x.goes(0);
        x.leaves(0);
        x.takes(2);
        x.encores(30);
        c.due("again", x.again(0), 6);
        int[] want = {6, 1, 3, 11, 11, 0};
        for (int what = 0; what < 6; what++) c.due("now " + what, x.now(what), want[what]);
        int[] where = {NONE, NONE, 0, 1};
        for (int t = 0; t < 4; t++) c.due("where", x.thing(t, 4), where[t]);
        c.due("as at first", x.again(1), 0);
        c.due("at the door", x.now(1), NONE);
        c.due("nothing read", x.now(4), 0);
        c.due("no strays", x.now(3), 0);
    }

    private static void imageKeepsNothingElse() {
        c.about("IMAGES keep nothing else");
        MindsByTen x = Checks.in("s1 0;s2 0;t0 5 0 1;");
        x.felt(5);
        x.keep(0);
        x.felt(4);
        x.tells(0, 0, 1);
        x.rate(0, 0);
        Checks.tell(x, "h1");
        x.again(0);
        c.due("felt", x.count(4), 2);
        c.due("told", x.count(5), 1);
        c.due("letters", x.count(6), 2);
        c.due("trace", x.trace(), 1);
        x.forget();
        x.clear();
        x.again(0);
        c.due("felt", x.count(4), 0);
        c.due("told", x.count(5), 0);
        c.due("letters", x.count(6), 0);
    }

    private static void nothingUndoneBehindAgain() {
        c.about("nothing can be UNDONE behind again()");
        for (int steps = 0; steps <= 12; steps += 4) {
            MindsByTen x = Checks.in("s1 0;s2 0;t0 5 0 1;");
            x.keep(0);
            for (int i = 0; i < steps; i++) x.encores(1);
            x.again(0);
            c.due("none", x.now(5), 0);
            c.due("refused", x.undo(), STATE);
            c.due("the minute stays", x.now(0), 0);
            x.goes(0);
            c.due("one", x.now(5), 1);
            c.due("undone", x.undo(), 0);
            c.due("as the image has it", x.now(1), NONE);
            c.due("none more", x.undo(), STATE);
        }
    }

    private static void keepChangesNothing() {
        c.about("keep: NOW stays, what can be UNDONE stays");
        MindsByTen x = Checks.played();
        String before = Probe.seen(x);
        x.keep(1);
        c.same("as it was", Probe.seen(x), before);
        c.due("undo", x.undo(), 5);
    }

    private static void againMoreThanOnce() {
        c.about("again: the IMAGE stays");
        MindsByTen x = Checks.in("s1 0;s2 0;t0 5 0 1;");
        x.goes(0);
        x.takes(0);
        x.keep(1);
        String kept = null;
        for (int i = 0; i < 3; i++) {
            c.due("again", x.again(1), 2);
            if (i == 0) kept = Probe.now(x);
            c.same("as kept", Probe.now(x), kept);
            x.goes(1);
            x.leaves(0);
        }
    }

    private static void imagesAreGone() {
        c.about("Read anew: IMAGES are gone");
        MindsByTen x = Checks.in("s1 0;");
        x.keep(0);
        x.keep(1);
        c.due("told", x.hall(), 0);
        c.due("0", x.again(0), STATE);
        c.due("1", x.again(1), STATE);
        x.keep(1);
        Checks.tell(x, "x");
        c.due("refused", x.hall(), -10);
        c.due("1 stays", x.again(1), 0);
    }

    private static void numbersOfCount() {
        c.about("count: BAD");
        for (MindsByTen x : new MindsByTen[] {new MindsByTen(), Checks.played()}) {
            c.due("below", x.count(-1), BAD);
            c.due("above", x.count(7), BAD);
            for (int n : Checks.FAR_OFF) c.due("far off", x.count(n), BAD);
        }
    }

    private static void countsAtTheEnds() {
        c.about("count, at the least and at the most");
        MindsByTen x = Checks.in("s0 0;".repeat(4) + "t0 0 0 1;".repeat(4) + "h4;e200;");
        for (int i = 0; i < 7; i++) {
            x.felt(0);
            x.tells(0, 0, 1);
        }
        for (int i = 0; i < 151; i++) x.type(' ');
        int[] most = {4, 4, 4, 200, 6, 6, 150};
        for (int what = 0; what < 7; what++) c.due("most " + what, x.count(what), most[what]);
        MindsByTen y = Checks.in("h1;e1;");
        int[] least = {0, 0, 1, 1, 0, 0, 0};
        for (int what = 0; what < 7; what++) c.due("least " + what, y.count(what), least[what]);
    }

    private static void traceOfEach() {
        c.about("numbers in brackets are added to THE TRACE as often as rate() asks that body: each once");
        for (int kind = 0; kind < 6; kind++) {
            MindsByTen x = Checks.in("s0 0;t0 0 0 1;");
            c.due("0 at first", x.trace(), 0);
            for (int i = 1; i <= 3; i++) {
                x.rate(kind, 0);
                c.due("kind " + kind, x.trace(), (long) i * ADDED[kind]);
            }
        }
    }

    private static void traceIsLong() {
        c.about("trace: no bound in 512 calls");
        MindsByTen x = Checks.in("s0 0;t0 0 0 1;");
        for (int i = 0; i < 490; i++) x.rate(5, 0);
        c.due("trace", x.trace(), 490L * 100001);
    }

    private static void traceGoesOn() {
        c.about("THE TRACE goes on (hall(), undo(), again(), other calls)");
        MindsByTen x = Checks.played();
        long trace = x.trace();
        c.due("one curate", trace, 1011);
        x.undo();
        c.due("behind undo", x.trace(), trace);
        x.again(0);
        c.due("behind again", x.trace(), trace);
        x.forget();
        x.clear();
        x.back(0);
        x.see();
        c.due("behind others", x.trace(), trace);
        x.hall();
        c.due("behind hall", x.trace(), trace);
        Checks.tell(x, "s1 1;t0 1 0 1;");
        x.hall();
        x.rate(0, 0);
        c.due("and on", x.trace(), trace + 1);
    }
}
