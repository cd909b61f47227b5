/** Counts and prints answers that are not as due; types whole texts. */
final class Checks {
    private int wrong = 0;
    private int done = 0;
    private String about = "";

    void about(String promise) {
        about = promise;
    }

    void due(String call, long got, long want) {
        done++;
        if (got != want) {
            wrong++;
            if (wrong <= 50) {
                System.out.println(about + ": " + call + " answered " + got + ", due is " + want);
            }
        }
    }

    void holds(String what, boolean holds) {
        due(what, holds ? 1 : 0, 1);
    }

    void same(String what, String got, String want) {
        done++;
        if (!got.equals(want)) {
            wrong++;
            if (wrong <= 50) {
                System.out.println(about + ": " + what + "\n  got " + got + "\n  due " + want);
            }
        }
    }

    int wrong() {
        return wrong;
    }

    void end() {
        System.out.println(wrong == 0 ? done + " answers, all as due" : wrong + " answers are not as due");
        if (wrong != 0) {
            System.exit(1);
        }
    }

    static void tell(MindsByTen x, String text) {
        for (int i = 0; i < text.length(); i++) {
            x.type(text.charAt(i));
        }
    }

    /** Encores, up to a minute. */
    static void toMinute(MindsByTen x, int minute) {
        int at = x.now(0);
        while (at < minute) {
            at = x.encores(Math.min(30, minute - at));
            if (at < 0) throw new IllegalStateException("no such minute: " + minute);
        }
    }

    /** A new object with a hall. */
    static MindsByTen in(String text) {
        MindsByTen x = new MindsByTen();
        tell(x, text);
        if (x.hall() < 0) {
            throw new IllegalStateException("a text with a fault: " + text);
        }
        return x;
    }

    /** What hall() answers a new object's text. */
    static int told(String text) {
        MindsByTen x = new MindsByTen();
        tell(x, text);
        return x.hall();
    }
}
