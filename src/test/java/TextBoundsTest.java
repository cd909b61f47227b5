/** The bounds that the document names for the text and the hall (part 1, promises 1 to 4), a sentence each. */
public final class TextBoundsTest {
    private static final int BAD = -1, STATE = -2, FULL = -3, NONE = -9, NO = -1000000;
    private static final String WHOLE = "s0 9;s9 0;s0 0;s9 9;t0 31 5 0;t1 0 0 5;t2 1 1 2;t3 2 3 4;h4;e200;";

    private static final Checks c = new Checks();

    public static void main(String[] args) {
        emptyObject();
        emptyObjectsAnswers();
        objectsApart();
        letters();
        longestText();
        fullText();
        clearing();
        mostSeats();
        mostThings();
        places();
        owners();
        marks();
        topics();
        hands();
        tens();
        onceEach();
        door();
        blanks();
        blanksInEveryGap();
        noOtherBlanks();
        noItems();
        semicolons();
        eachLetterAlone();
        eachLetterInPlace();
        numbersTooHigh();
        zerosAhead();
        endsTooEarly();
        firstFault();
        faultChangesNothing();
        refusedTextsAreForgotten();
        readAnew();
        readAnewTraces();
        c.end();
    }

    private static void items(String text, int items) {
        c.due("'" + text + "'", Checks.told(text), items);
    }

    private static void fault(String text, int place) {
        c.due("'" + text + "'", Checks.told(text), -10 - place);
    }

    private static void emptyObject() {
        c.about("As told; no SEATS, no THINGS");
        c.same("new", Probe.seen(new MindsByTen()), "count 0 0 2 60 0 0 0 | now 0 -9 0 0 0 0 | hall"
            + " | back 0 -9 60 0 0 -9 -9 -9 -9 | odds 1 1 1 1 1 1 1 1 | knows 0 0 1 | whose 1 7 | trace0");
        c.same("an empty text tells the same", Probe.whole(Checks.in("")), Probe.whole(new MindsByTen()));
    }

    private static void emptyObjectsAnswers() {
        c.about("no such thing, in a new object");
        MindsByTen x = new MindsByTen();
        for (int n = -1; n <= 4; n++) {
            c.due("seat", x.seat(n, 0), BAD);
            c.due("thing", x.thing(n, 0), BAD);
            c.due("goes", x.goes(n), BAD);
            c.due("takes", x.takes(n), BAD);
            c.due("leaves", x.leaves(n), BAD);
            c.due("tells", x.tells(n, 0, 1), BAD);
            c.due("rate", x.rate(0, n), NO);
        }
        c.due("whose", x.whose(0), BAD);
        c.due("forget", x.forget(), 0);
        c.due("clear", x.clear(), 0);
        c.due("keep", x.keep(0), 0);
        c.due("again", x.again(0), 0);
        c.due("again, the other", x.again(1), STATE);
        c.due("encores", x.encores(30), 30);
        c.due("undo", x.undo(), 0);
    }

    private static void objectsApart() {
        c.about("a new object knows nothing of another one");
        String before = Probe.whole(new MindsByTen());
        MindsByTen x = Checks.in(WHOLE);
        x.goes(0);
        x.takes(0);
        x.keep(0);
        x.felt(1);
        x.tells(0, 0, 1);
        x.rate(5, 0);
        x.see();
        Checks.tell(x, "s1");
        c.same("new", Probe.whole(new MindsByTen()), before);
        c.due("nor is that one changed", x.count(6), 2);
    }

    private static void letters() {
        c.about("A letter (0 .. 255)");
        for (int letter = 0; letter <= 255; letter++) {
            MindsByTen x = new MindsByTen();
            c.due("letter " + letter, x.type(letter), 1);
            c.due("letter " + letter + " again", x.type(letter), 2);
        }
        for (int letter : new int[] {-1, 256, -256, 257, 512, 256 + 's', 65536 + 's', Integer.MAX_VALUE, Integer.MIN_VALUE}) {
            MindsByTen x = Checks.in("s1 1;");
            c.due("letter " + letter, x.type(letter), BAD);
            c.due("no letter came", x.count(6), 0);
        }
    }

    private static void longestText() {
        c.about("a text (150 letters at most)");
        for (int blanks = 0; blanks <= 145; blanks += 145) {
            MindsByTen x = new MindsByTen();
            Checks.tell(x, " ".repeat(blanks) + "s7 8;" + " ".repeat(145 - blanks));
            c.due("150 letters", x.count(6), 150);
            c.due("150 letters are read", x.hall(), 1);
            c.due("x", x.seat(0, 0), 7);
            c.due("empty then", x.count(6), 0);
        }
        c.due("149 letters", Checks.told(" ".repeat(144) + "s7 8;"), 1);
        fault(" ".repeat(149) + "s", 150);
        fault(" ".repeat(149) + "x", 149);
        fault(" ".repeat(145) + "s7 88", 148);
        items(" ".repeat(150), 0);
    }

    private static void fullText() {
        c.about("type: FULL");
        MindsByTen x = new MindsByTen();
        for (int i = 1; i <= 150; i++) c.due("letter " + i, x.type('x'), i);
        for (int letter : new int[] {0, ' ', ';', 255}) {
            c.due("151st", x.type(letter), FULL);
            c.due("151st changes nothing", x.count(6), 150);
        }
        c.due("a fault leaves it full", x.hall(), -10);
        c.due("full still", x.type(' '), FULL);
        c.due("clear", x.clear(), 150);
        c.due("room again", x.type('s'), 1);
        x.clear();
        Checks.tell(x, "s1 1;" + " ".repeat(145));
        c.due("full", x.type(' '), FULL);
        c.due("told", x.hall(), 1);
        c.due("room behind hall()", x.type('s'), 1);
    }

    private static void clearing() {
        c.about("clear: THE TEXT is empty");
        for (int letters : new int[] {0, 1, 149, 150}) {
            MindsByTen x = Checks.played();
            x.clear();
            Checks.tell(x, "s".repeat(letters));
            c.due("had " + letters, x.clear(), letters);
            c.due("has none", x.clear(), 0);
            MindsByTen twin = Checks.played();
            twin.clear();
            c.same("nothing else changes", Probe.whole(x), Probe.whole(twin));
        }
        MindsByTen x = Checks.in("");
        Checks.tell(x, "s1 1;s2 2;");
        x.clear();
        Checks.tell(x, "s3 4;");
        c.due("what was cleared is not told", x.hall(), 1);
        c.due("x", x.seat(0, 0), 3);
    }

    private static void mostSeats() {
        c.about("SEATS 0 .. (4 at most)");
        StringBuilder text = new StringBuilder();
        for (int s = 0; s < 4; s++) {
            MindsByTen x = Checks.in(text.toString());
            c.due("seats", x.count(0), s);
            c.due("no such seat", x.seat(s, 0), BAD);
            text.append('s').append(s + 1).append(' ').append(s + 5).append(';');
            MindsByTen y = Checks.in(text.toString());
            c.due("one more", y.count(0), s + 1);
            for (int seat = 0; seat <= s; seat++) {
                c.due("x in order", y.seat(seat, 0), seat + 1);
                c.due("y in order", y.seat(seat, 1), seat + 5);
            }
        }
        fault(text + "s1 1;", 20);
        fault(text + " s", 21);
        fault(text + "t0 0 0 1;s1 1;", 29);
        fault(text + "sx", 20);
    }

    private static void mostThings() {
        c.about("THINGS 0 .. (4 at most)");
        StringBuilder text = new StringBuilder("s1 1;s2 2;");
        for (int t = 0; t < 4; t++) {
            MindsByTen x = Checks.in(text.toString());
            c.due("things", x.count(1), t);
            c.due("no such thing", x.thing(t, 0), BAD);
            text.append("t1 ").append(t + 1).append(' ').append(t).append(' ').append(t + 1).append(';');
            MindsByTen y = Checks.in(text.toString());
            c.due("one more", y.count(1), t + 1);
            for (int thing = 0; thing <= t; thing++) {
                c.due("marks in order", y.thing(thing, 1), thing + 1);
                c.due("a in order", y.thing(thing, 2), thing);
                c.due("b in order", y.thing(thing, 3), thing + 1);
            }
            c.due("all in one mind", y.seat(1, 2), (2 << t) - 1);
        }
        fault(text + "t0 0 0 1;", 46);
        fault(text + "  t", 48);
        fault(text + "h1;t9", 49);
        items(text + "s1 1;s1 1;", 8);
    }

    private static void places() {
        c.about("PLACE x, y (0 .. 9 each; two may be at one)");
        for (int n = 0; n <= 9; n++) {
            MindsByTen x = Checks.in("s" + n + " " + (9 - n) + ";");
            c.due("x", x.seat(0, 0), n);
            c.due("y", x.seat(0, 1), 9 - n);
        }
        fault("s10 0;", 1);
        fault("s0 10;", 3);
        fault("s200 0;", 1);
        fault("s0 200;", 3);
        items("s4 4;s4 4;s4 4;s4 4;", 4);
        MindsByTen x = Checks.in("s4 4;s4 4;");
        x.goes(0);
        c.due("no way between two at one", x.seat(1, 3), 0);
    }

    private static void owners() {
        c.about("OWNER (a SEAT told ahead)");
        fault("t0 0 0 1;", 1);
        fault("t 0 0 0 1;s0 0;", 2);
        for (int seats = 1; seats <= 4; seats++) {
            String text = "s1 1;".repeat(seats);
            c.due("the highest", Checks.in(text + "t" + (seats - 1) + " 0 0 1;").thing(0, 0), seats - 1);
            c.due("the lowest", Checks.in(text + "t0 0 0 1;").thing(0, 0), 0);
            fault(text + "t" + seats + " 0 0 1;", 5 * seats + 1);
            if (seats < 4) {
                fault(text + "t" + seats + " 0 0 1;s1 1;", 5 * seats + 1);
                items(text + "s1 1;t" + seats + " 0 0 1;", seats + 2);
            }
        }
    }

    private static void marks() {
        c.about("MARKS (0 .. 4 as bits)");
        for (int marks = 0; marks <= 31; marks++) {
            c.due("marks", Checks.in("s0 0;t0 " + marks + " 0 1;").thing(0, 1), marks);
        }
        fault("s0 0;t0 32 0 1;", 8);
        fault("s0 0;t0 200 0 1;", 8);
    }

    private static void topics() {
        c.about("TOPICS A, B (0 .. 5; unlike)");
        for (int a = 0; a <= 6; a++) {
            for (int b = 0; b <= 6; b++) {
                String text = "s0 0;t0 0 " + a + " " + b + ";";
                if (a == 6) {
                    fault(text, 10);
                } else if (b == 6 || a == b) {
                    fault(text, 12);
                } else {
                    c.due("A", Checks.in(text).thing(0, 2), a);
                    c.due("B", Checks.in(text).thing(0, 3), b);
                }
            }
        }
        fault("s0 0;t0 0 4   4", 14);
        fault("s0 0;t0 0 4 x", 12);
    }

    private static void hands() {
        c.about("HANDS (1 .. 4; 2 at first)");
        c.due("not told", Checks.in("s0 0;e9;").count(2), 2);
        for (int n = 1; n <= 4; n++) c.due("told", Checks.in("h" + n + ";").count(2), n);
        for (int n : new int[] {0, 5, 10, 200}) fault("h" + n + ";", 1);
    }

    private static void tens() {
        c.about("TEN (1 .. 200; 60 at first)");
        c.due("not told", Checks.in("s0 0;h1;").count(3), 60);
        for (int n : new int[] {1, 2, 9, 10, 99, 100, 199, 200}) c.due("told", Checks.in("e" + n + ";").count(3), n);
        for (int n : new int[] {0, 201, 255, 256, 257, 1000}) fault("e" + n + ";", 1);
    }

    private static void onceEach() {
        c.about("h N, e N (once at most each)");
        items("h1;e1;", 2);
        items("e1;h1;", 2);
        fault("h1;h1;", 3);
        fault("e1;e1;", 3);
        fault("h1;e1;h", 6);
        fault("e1;h1; e", 7);
        fault("h2;s0 0;h2;", 8);
        fault("e60;s0 0;e60;", 9);
        MindsByTen x = Checks.in("h1;e1;");
        Checks.tell(x, "h3;e3;");
        c.due("told again in another text", x.hall(), 2);
        c.due("hands", x.count(2), 3);
    }

    private static void door() {
        c.about("DOOR: PLACE 0, 0");
        MindsByTen x = Checks.in("s0 0;s9 0;s0 9;s9 9;");
        int[] ways = {0, 9, 9, 18};
        for (int s = 0; s < 4; s++) c.due("way", x.seat(s, 3), ways[s]);
        c.due("she is at no seat", x.now(1), NONE);
        c.due("a seat at the door's place is another", x.goes(0), 0);
        c.due("she is there", x.now(1), 0);
    }

    private static void blanks() {
        c.about("blanks, any number; needed only between two NUMBERS");
        items("s1 2;", 1);
        fault("s12;", 1);
        fault("s1 2 3;", 5);
        items("s1 2;t0 1 2 3;", 2);
        fault("s1 2;t01 2 3;", 6);
        fault("s1 2;t0 12 3;", 12);
        fault("s1 2;t0 1 23;", 10);
        items("h2;", 1);
        items("h 2 ;", 1);
        fault("e1 2;", 3);
        items("e12;", 1);
    }

    private static void blanksInEveryGap() {
        c.about("blanks ahead of, between, behind TOKENS");
        String[] tokens = {"s", "1", " ", "2", ";", "t", "0", " ", "3", " ", "4", " ", "5", ";", "h", "3", ";", "e", "4", ";"};
        for (int gap = 0; gap <= tokens.length; gap++) {
            for (int many = 1; many <= 50; many += 49) {
                StringBuilder text = new StringBuilder();
                for (int i = 0; i <= tokens.length; i++) {
                    if (i == gap) text.append(" ".repeat(many));
                    if (i < tokens.length) text.append(tokens[i]);
                }
                MindsByTen x = new MindsByTen();
                Checks.tell(x, text.toString());
                c.due("'" + text + "'", x.hall(), 4);
                c.same("the same hall", Probe.whole(x), Probe.whole(Checks.in(String.join("", tokens))));
            }
        }
    }

    private static void noOtherBlanks() {
        c.about("blanks (32)");
        for (char other : new char[] {0, 9, 10, 11, 12, 13, 31, 33, 127, 160, 255}) {
            fault("s1" + other + "2;", 2);
            fault("s1 2;" + other, 5);
            fault(other + "s1 2;", 0);
            fault("s" + other + "1 2;", 1);
            fault("s1 2" + other + ";", 4);
        }
    }

    private static void noItems() {
        c.about("ITEMS (none, too)");
        for (int blanks : new int[] {0, 1, 2, 149, 150}) {
            MindsByTen x = Checks.in("s1 1;t0 0 0 1;h1;e1;");
            Checks.tell(x, " ".repeat(blanks));
            c.due(blanks + " blanks", x.hall(), 0);
            c.same("nothing is told", Probe.whole(x), Probe.whole(new MindsByTen()));
        }
    }

    private static void semicolons() {
        c.about("each ended by ;");
        fault(";", 0);
        fault(" ;", 1);
        fault("s1 1;;", 5);
        fault("s1 1; ;", 6);
        fault("s;", 1);
        fault("s1;", 2);
        fault("s1 1s1 1;", 4);
        fault("s1 1 h1;", 5);
        fault("h1e1;", 2);
        fault("h1", 2);
        fault("s1 1;t0 0 0;", 11);
        fault("s1 1;t0 0;", 9);
        fault("s1 1;t0;", 7);
        fault("s1 1;t;", 6);
        fault("s1 1;t0 0 0 1e", 13);
        fault("h;", 1);
        fault("e;", 1);
    }

    private static void eachLetterAlone() {
        c.about("TOKENS are the letters s, t, h, e, NUMBERS and ;");
        for (int letter = 0; letter <= 255; letter++) {
            MindsByTen x = new MindsByTen();
            x.type(letter);
            int want = letter == ' ' ? 0 : "sthe".indexOf(letter) >= 0 ? -11 : -10;
            c.due("letter " + letter, x.hall(), want);
        }
    }

    private static void eachLetterInPlace() {
        c.about("FAULT of any other letter");
        for (int letter = 0; letter <= 255; letter++) {
            boolean digit = letter >= '0' && letter <= '9';
            // a digit behind 0 makes the number itself wrong
            c.due("for ; " + letter, Checks.told("s0 0" + (char) letter),
                letter == ';' ? 1 : letter == ' ' ? -15 : digit ? -13 : -14);
            c.due("for x " + letter, Checks.told("s" + (char) letter + " 0;"), digit ? 1 : letter == ' ' ? -14 : -11);
            c.due("for s " + letter, Checks.told((char) letter + "1;"),
                letter == 'h' || letter == 'e' ? 1 : letter == 's' ? -12 : letter == 't' || letter == ' ' ? -11 : -10);
        }
    }

    private static void numbersTooHigh() {
        c.about("a NUMBER above 200: that TOKEN's");
        items("e200;", 1);
        String[] high = {"201", "209", "999", "2000", "65536", "65600", "2147483647", "2147483648", "4294967296", "4294967297",
            "18446744073709551617", "1" + "0".repeat(60), "9".repeat(140)};
        for (String n : high) {
            fault("e" + n + ";", 1);
            fault("e" + n, 1);
            fault("  " + n + ";", 2);
        }
        fault("e1;" + "9".repeat(147), 3);
        fault("9".repeat(150), 0);
        fault("s1 1 999;", 5);
    }

    private static void zerosAhead() {
        c.about("a NUMBER with a 0 ahead of others: that TOKEN's");
        items("s0 0;", 1);
        String[] wrong = {"00", "01", "09", "000", "001", "0200", "0".repeat(100)};
        for (String n : wrong) {
            fault("s" + n + " 1;", 1);
            fault("s1 " + n + ";", 3);
            fault("h" + n + ";", 1);
            fault("e " + n + ";", 2);
            fault(n, 0);
        }
        items("e100;", 1);
        items("h 1;e 20;", 2);
    }

    private static void endsTooEarly() {
        c.about("the text's length, if it ends too early");
        for (int length = 0; length <= WHOLE.length(); length++) {
            String text = WHOLE.substring(0, length);
            boolean ended = text.isEmpty() || text.endsWith(";");
            int items = text.length() - text.replace(";", "").length();
            c.due("'" + text + "'", Checks.told(text), ended ? items : -10 - length);
            c.due("'" + text + "   '", Checks.told(text + "   "), ended ? items : -10 - length - 3);
        }
        fault("s", 1);
        fault("t", 1);
        fault("   e   ", 7);
    }

    private static void firstFault() {
        c.about("the first TOKEN that can't stand there");
        fault("s1 x;s77 1;", 3);
        fault("s1 77;x", 3);
        fault("x s77 1;", 0);
        fault("s1 1;;x", 5);
        fault("h9;h9;", 1);
        fault("s1 1 ; t 9 99 9 9 ;", 9);
        fault("s1 1 ; t 0 99 9 9 ;", 11);
        fault("s1 1 ; t 0 31 9 9 ;", 14);
        fault("s1 1 ; t 0 31 5 9 ;", 16);
        fault("s1 1 ; t 0 31 5 4 9 ;", 18);
        fault("t999 0 0 1;", 1);
    }

    private static void faultChangesNothing() {
        c.about("-10 less FAULT: nothing changes (THE TEXT stays, too)");
        String[] wrong = {"s1 1;s2 2;s", "x", "s9 9;s8 8;t1 31 4 5;h1;e3;;", "s5 5;t0 0 3 3;", "e5;h4;e", "h1;h2;"};
        for (String text : wrong) {
            MindsByTen x = Checks.played();
            MindsByTen twin = Checks.played();
            x.clear();
            twin.clear();
            Checks.tell(x, text);
            Checks.tell(twin, text);
            c.holds("refused", x.hall() <= -10);
            c.same("after '" + text + "'", Probe.whole(x), Probe.whole(twin));
        }
        MindsByTen x = new MindsByTen();
        Checks.tell(x, "s3 4");
        c.due("ends too early", x.hall(), -14);
        c.due("letters stay", x.count(6), 4);
        c.due("one more letter", x.type(';'), 5);
        c.due("right now", x.hall(), 1);
        c.due("y", x.seat(0, 1), 4);
    }

    private static void refusedTextsAreForgotten() {
        c.about("hall: a refused text leaves no trace in the next one");
        MindsByTen x = new MindsByTen();
        String[] texts = {"s1 1;s2 2;s3 3;s4 4;s", "s0 0;t0 1 0 1;t0 1 0 1;t0 1 0 1;t0 1 0 1;t", "h4;h", "e9;e"};
        for (String text : texts) {
            x.clear();
            Checks.tell(x, text);
            c.holds("refused", x.hall() <= -10);
        }
        x.clear();
        Checks.tell(x, "s6 7;t0 1 0 1;");
        c.due("told", x.hall(), 2);
        c.same("alone", Probe.whole(x), Probe.whole(Checks.in("s6 7;t0 1 0 1;")));
    }

    private static void readAnew() {
        c.about("Read anew: as told, HANDS 2, TEN 60, MINUTE 0, nothing FELT, TOLD, no IMAGES, nothing UNDONE");
        String[] texts = {"", "s1 1;", WHOLE, "h1;", "e1;", "s2 0;s5 0;s5 4;t0 3 0 1;t1 5 1 2;t2 24 3 4;"};
        for (String text : texts) {
            MindsByTen x = Checks.played();
            x.clear();
            Checks.tell(x, text);
            long trace = x.trace();
            x.hall();
            c.due("the trace goes on", x.trace(), trace);
            c.same("anew '" + text + "'", Probe.withoutTrace(Probe.whole(x)), Probe.withoutTrace(Probe.whole(Checks.in(text))));
        }
        MindsByTen x = Checks.in(WHOLE);
        Checks.tell(x, "s1 1;");
        x.hall();
        c.due("hands not told", x.count(2), 2);
        c.due("ten not told", x.count(3), 60);
        c.due("seats are not added", x.count(0), 1);
        c.due("things are gone", x.count(1), 0);
    }

    private static void readAnewTraces() {
        c.about("THE TRACE goes on, as behind undo(), again()");
        MindsByTen x = Checks.in(WHOLE);
        x.rate(0, 0);
        x.encores(1);
        x.keep(0);
        x.rate(0, 0);
        x.undo();
        c.due("behind undo", x.trace(), 2);
        x.again(0);
        c.due("behind again", x.trace(), 2);
        x.hall();
        c.due("behind hall", x.trace(), 2);
        c.due("undo", x.undo(), STATE);
        c.due("images", x.again(0), STATE);
    }
}
