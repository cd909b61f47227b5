/** Counts and prints answers that are not as due; types whole texts. */
final class Checks {
    /** Numbers that no call takes, but type() its blank: BAD, NO. */
    static final int[] FAR_OFF = {Integer.MIN_VALUE, -1000000, -256, -10, -9, 32, 256, Integer.MAX_VALUE};

    private int wrong = 0;
    private int done = 0;
    private String about = "";

    void about(String promise) {
        about = promise;
    }

    void due(String call, long got, long want) {
        done++;
        if (got != want) {
            wrong++;
            if (wrong <= 50) {
                System.out.println(about + ": " + call + " answered " + got + ", due is " + want);
            }
        }
    }

    void holds(String what, boolean holds) {
        due(what, holds ? 1 : 0, 1);
    }

    void same(String what, String got, String want) {
        done++;
        if (!got.equals(want)) {
            wrong++;
            if (wrong <= 50) {
                System.out.println(about + ": " + what + "\n  got " + got + "\n  due " + want);
            }
        }
    }

    int wrong() {
        return wrong;
    }

    void end() {
        System.out.println(wrong == 0 ? done + " answers, all as due" : wrong + " answers are not as due");
        if (wrong != 0) {
            System.exit(1);
        }
    }

    static void tell(MindsByTen x, String text) {
        for (int i = 0; i < text.length(); i++) {
            x.type(text.charAt(i));
        }
    }

    /** Encores, up to a minute. */
    static void toMinute(MindsByTen x, int minute) {
        int at = x.now(0);
        while (at < minute) {
            at = x.encores(Math.min(30, minute - at));
            if (at < 0) throw new IllegalStateException("no such minute: " + minute);
        }
    }

    /** A new object with a hall. */
    static MindsByTen in(String text) {
        MindsByTen x = new MindsByTen();
        tell(x, text);
        if (x.hall() < 0) {
            throw new IllegalStateException("a text with a fault: " + text);
        }
        return x;
    }

    /** An object of which everything is used: steps, images, felt, told, the trace, a begun text. */
    static MindsByTen played() {
        MindsByTen x = in("s2 0;s5 0;s5 4;t0 3 0 1;t1 5 1 2;t2 24 3 4;h3;e40;");
        x.goes(0);
        x.takes(0);
        x.keep(0);
        x.goes(1);
        x.leaves(0);
        x.takes(1);
        x.keep(1);
        x.encores(7);
        x.felt(2);
        x.felt(24);
        x.tells(0, 1, 0);
        x.tells(1, 0, 1);
        x.rate(3, 0);
        tell(x, "s1 ");
        return x;
    }

    /** What hall() answers a new object's text. */
    static int told(String text) {
        MindsByTen x = new MindsByTen();
        tell(x, text);
        return x.hall();
    }
}
