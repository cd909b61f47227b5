/** What an object tells of itself, as a text, so that two objects with the same past can be held against each other. */
final class Probe {
    private Probe() { }

    /** What can be asked without a change (rate() adds to the trace, so it is not asked). */
    static String seen(MindsByTen x) {
        StringBuilder b = new StringBuilder();
        row(b, "count");
        for (int what = 0; what < 7; what++) add(b, x.count(what));
        moment(b, x);
        hall(b, x);
        row(b, "back");
        add(b, x.back(0));
        add(b, x.back(1));
        add(b, x.left());
        add(b, x.see());
        for (int n = 0; n <= 4; n++) add(b, x.seenBy(n));
        row(b, "odds");
        for (int k = 0; k < 4; k++) {
            add(b, x.odds(3, k, 0));
            add(b, x.odds(3, k, 1));
        }
        row(b, "knows");
        for (int what = 0; what < 3; what++) add(b, x.knows(what));
        row(b, "whose");
        int felt = x.count(4);
        for (int i = -1; i < felt; i++) add(b, x.whose(i));
        add(b, x.fits());
        row(b, "trace");
        b.append(x.trace());
        return b.toString();
    }

    /** All, with what can be undone, the images and the text behind it: the object is used up by it. */
    static String whole(MindsByTen x) {
        StringBuilder b = new StringBuilder(seen(x));
        for (int i = 0; i < 12; i++) {
            row(b, "undo");
            add(b, x.undo());
            if (x.now(5) == 0) break;
            moment(b, x);
        }
        moment(b, x);
        for (int image = 0; image < 2; image++) {
            row(b, "again");
            add(b, x.again(image));
            moment(b, x);
        }
        row(b, "text");
        add(b, x.hall());
        for (int what = 0; what < 7; what++) add(b, x.count(what));
        hall(b, x);
        return b.toString();
    }

    static String withoutTrace(String probe) {
        return probe.replaceAll("trace-?[0-9]+", "");
    }

    /** NOW alone: the minute, where she is, where things are, what is read, how many may be undone. */
    static String now(MindsByTen x) {
        StringBuilder b = new StringBuilder();
        moment(b, x);
        return b.toString();
    }

    private static void moment(StringBuilder b, MindsByTen x) {
        row(b, "now");
        for (int what = 0; what < 6; what++) add(b, x.now(what));
        int things = x.count(1);
        for (int t = 0; t < things; t++) add(b, x.thing(t, 4));
    }

    private static void hall(StringBuilder b, MindsByTen x) {
        row(b, "hall");
        int seats = x.count(0);
        int things = x.count(1);
        for (int s = 0; s < seats; s++) {
            for (int what = 0; what < 4; what++) add(b, x.seat(s, what));
        }
        for (int t = 0; t < things; t++) {
            for (int what = 0; what < 6; what++) add(b, x.thing(t, what));
        }
    }

    private static void row(StringBuilder b, String name) {
        b.append(b.length() == 0 ? "" : " | ").append(name);
    }

    private static void add(StringBuilder b, int n) {
        b.append(' ').append(n);
    }
}
