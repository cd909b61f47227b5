/**
 * 'Refused, and nothing changes, the first of these: BAD, STATE, FULL': each call is refused in many pasts, and the
 * object is held against one with the same past to which the call did not come.
 */
public final class RefusedTest {
    private static final int BAD = -1, STATE = -2, FULL = -3, NO = -1000000;
    private static final int[] NUMBERS = {Integer.MIN_VALUE, -1000000, -10, -9, -2, -1, 0, 1, 2, 3, 4, 5, 6, 7, 10, 11, 30, 31,
        32, 150, 200, 255, 256, 999, Integer.MAX_VALUE};
    private static final String HALL = "s2 0;s5 0;s5 4;t0 3 0 1;t1 5 1 2;t2 24 3 4;h2;e40;";

    private static final Checks c = new Checks();

    private interface Call {
        long of(MindsByTen x);
    }

    private interface Past {
        MindsByTen make();
    }

    public static void main(String[] args) {
        Past[] pasts = {MindsByTen::new, RefusedTest::atTheDoor, RefusedTest::handsFull, RefusedTest::undoneOften,
            RefusedTest::allFull, RefusedTest::lastMinute, RefusedTest::lastMinuteAtTheDoor};
        for (int i = 0; i < pasts.length; i++) {
            c.about("past " + i);
            refusedTwos(pasts[i]);
            refusedTellsAndOdds(pasts[i]);
            refusedSingle(pasts[i]);
            refusedTexts(pasts[i]);
        }
        badAheadOfState();
        badAheadOfFull();
        wholeRowsRefused();
        c.end();
    }

    private static MindsByTen atTheDoor() {
        return Checks.in(HALL);
    }

    private static MindsByTen handsFull() {
        MindsByTen x = Checks.in(HALL);
        x.goes(0);
        x.takes(0);
        x.keep(0);
        x.goes(1);
        x.takes(1);
        x.felt(2);
        x.tells(0, 1, 0);
        x.rate(3, 0);
        Checks.tell(x, "s1 ");
        return x;
    }

    private static MindsByTen undoneOften() {
        MindsByTen x = Checks.in(HALL);
        x.goes(2);
        x.takes(2);
        x.goes(0);
        x.leaves(2);
        x.takes(0);
        x.keep(1);
        for (int i = 1; i <= 9; i++) x.encores(i);
        for (int i = 0; i < 6; i++) x.undo();
        Checks.tell(x, "s3 4;");
        return x;
    }

    private static MindsByTen allFull() {
        MindsByTen x = Checks.in(HALL);
        for (int i = 0; i < 6; i++) {
            x.felt(i);
            x.tells(i % 3, i % 2, 2);
        }
        x.keep(0);
        for (int i = 0; i < 12; i++) x.encores(1);
        x.keep(1);
        Checks.tell(x, "s8 7;" + " ".repeat(145));
        return x;
    }

    private static MindsByTen lastMinute() {
        MindsByTen x = Checks.in(HALL);
        x.goes(0);
        x.takes(0);
        Checks.toMinute(x, 999);
        x.keep(1);
        return x;
    }

    private static MindsByTen lastMinuteAtTheDoor() {
        MindsByTen x = Checks.in(HALL);
        Checks.toMinute(x, 999);
        return x;
    }

    private static boolean isRefused(long answer) {
        return answer == BAD || answer == STATE || answer == FULL || answer == NO;
    }

    /** A call that is refused changes nothing, and is refused again. */
    private static void refused(String name, Past past, Call call) {
        MindsByTen x = past.make();
        long answer = call.of(x);
        if (!isRefused(answer)) return;
        c.due(name + ", again", call.of(x), answer);
        c.same(name, Probe.whole(x), Probe.whole(past.make()));
    }

    private static void refusedSingle(Past past) {
        refused("undo", past, MindsByTen::undo);
        for (int n : NUMBERS) {
            refused("type " + n, past, x -> x.type(n));
            refused("now " + n, past, x -> x.now(n));
            refused("goes " + n, past, x -> x.goes(n));
            refused("takes " + n, past, x -> x.takes(n));
            refused("leaves " + n, past, x -> x.leaves(n));
            refused("encores " + n, past, x -> x.encores(n));
            refused("back " + n, past, x -> x.back(n));
            refused("seenBy " + n, past, x -> x.seenBy(n));
            refused("knows " + n, past, x -> x.knows(n));
            refused("felt " + n, past, x -> x.felt(n));
            refused("whose " + n, past, x -> x.whose(n));
            refused("keep " + n, past, x -> x.keep(n));
            refused("again " + n, past, x -> x.again(n));
            refused("count " + n, past, x -> x.count(n));
        }
    }

    private static void refusedTwos(Past past) {
        for (int n : NUMBERS) {
            for (int m : new int[] {-1, 0, 3, 4, 5, 6}) {
                refused("seat " + n + " " + m, past, x -> x.seat(n, m));
                refused("thing " + n + " " + m, past, x -> x.thing(n, m));
                refused("rate " + n + " " + m, past, x -> x.rate(n, m));
            }
        }
    }

    private static void refusedTellsAndOdds(Past past) {
        for (int a : new int[] {-1, 0, 2, 3, 11}) {
            for (int b : new int[] {-1, 0, 2, 3, 5}) {
                for (int d : new int[] {-1, 0, 2, 3}) {
                    refused("tells " + a + " " + b + " " + d, past, x -> x.tells(a, b, d));
                    refused("odds " + a + " " + b + " " + d, past, x -> x.odds(a, b, d));
                }
            }
        }
    }

    private static void refusedTexts(Past past) {
        for (String text : new String[] {"s1 1;s", "h1;e1;x", "s9 9;t0 31 4 5;t1", "e9;;", "0"}) {
            MindsByTen x = past.make();
            MindsByTen twin = past.make();
            x.clear();
            twin.clear();
            Checks.tell(x, text);
            Checks.tell(twin, text);
            int answer = x.hall();
            c.holds("refused", answer <= -10);
            c.due("refused again", x.hall(), answer);
            c.same("hall of '" + text + "'", Probe.whole(x), Probe.whole(twin));
        }
    }

    private static void badAheadOfState() {
        c.about("the first of these: BAD ahead of STATE");
        MindsByTen x = lastMinute();
        c.due("goes", x.goes(3), BAD);
        c.due("goes, there", x.goes(0), STATE);
        c.due("goes, beyond 999", x.goes(1), STATE);
        c.due("takes", x.takes(3), BAD);
        c.due("takes", x.takes(-1), BAD);
        c.due("takes, in no such mind", x.takes(1), STATE);
        c.due("leaves", x.leaves(3), BAD);
        c.due("leaves", x.leaves(-1), BAD);
        c.due("leaves, 999", x.leaves(0), STATE);
        c.due("encores", x.encores(31), BAD);
        c.due("encores", x.encores(0), BAD);
        c.due("encores, beyond 999", x.encores(1), STATE);
        c.due("again", x.again(2), BAD);
        c.due("again, none", x.again(0), STATE);
        MindsByTen full = handsFull();
        c.due("takes, hands are full", full.takes(3), BAD);
        MindsByTen door = atTheDoor();
        c.due("takes at the door", door.takes(3), BAD);
        c.due("leaves at the door", door.leaves(3), BAD);
    }

    private static void badAheadOfFull() {
        c.about("the first of these: BAD ahead of FULL");
        MindsByTen x = allFull();
        c.due("type", x.type(256), BAD);
        c.due("type", x.type(-1), BAD);
        c.due("type, full", x.type(255), FULL);
        c.due("felt", x.felt(32), BAD);
        c.due("felt", x.felt(-1), BAD);
        c.due("felt, full", x.felt(31), FULL);
        c.due("tells, no thing", x.tells(3, 0, 1), BAD);
        c.due("tells, no seat", x.tells(0, 3, 1), BAD);
        c.due("tells, no seat", x.tells(0, 0, -1), BAD);
        c.due("tells, alike", x.tells(0, 1, 1), BAD);
        c.due("tells, full", x.tells(0, 0, 1), FULL);
    }

    private static void wholeRowsRefused() {
        c.about("many refused calls, one behind the other");
        Past[] pasts = {RefusedTest::handsFull, RefusedTest::allFull, RefusedTest::lastMinute};
        for (Past past : pasts) {
            MindsByTen x = past.make();
            for (int n : new int[] {-1, 256, 1000}) {
                x.type(n);
                x.goes(n);
                x.takes(n);
                x.leaves(n);
                x.encores(n);
                x.felt(n);
                x.tells(n, 0, 1);
                x.tells(0, n, n);
                x.rate(n, 0);
                x.rate(0, n);
                x.keep(n);
                x.again(n);
            }
            c.same("as if none had come", Probe.whole(x), Probe.whole(past.make()));
        }
    }
}
