import java.util.Random;

/** Long runs of calls, drawn by a fixed seed, answered by the class and by the model in support. */
public final class ModelTest {
    private static final String[] CALLS = {"type", "clear", "hall", "seat", "thing", "now", "goes", "takes", "leaves",
        "encores", "undo", "back", "left", "see", "seenBy", "odds", "knows", "felt", "whose", "tells", "fits", "forget",
        "rate", "keep", "again", "count", "trace"};
    private static final String[] STEPS = {"goes", "goes", "takes", "takes", "takes", "leaves", "leaves"};
    private static final String[] ASKED = {"back", "left", "see", "seenBy", "knows", "now", "odds"};
    private static final String LETTERS = "sthe;0123456789 ;  s t h e 12 200 01x";
    private static final int CALLS_OF_ONE = 512;

    private static final Checks c = new Checks();

    public static void main(String[] args) {
        int runs = args.length > 0 ? Integer.parseInt(args[0]) : 120;
        for (int run = 0; run < runs && c.wrong() == 0; run++) {
            new Run(run).play();
        }
        texts(runs * 20);
        c.end();
    }

    /** Halls by texts alone, right ones and ones with a letter or two changed. */
    private static void texts(int many) {
        Random random = new Random(7);
        for (int i = 0; i < many && c.wrong() == 0; i++) {
            MindsByTen x = new MindsByTen();
            Model model = new Model();
            String text = spoil(hallText(random), random);
            c.about("text '" + text + "'");
            for (int j = 0; j < text.length(); j++) {
                c.due("type", x.type(text.charAt(j)), model.call("type", text.charAt(j), 0, 0));
            }
            c.due("hall", x.hall(), model.call("hall", 0, 0, 0));
            for (int what = 0; what < 7; what++) {
                c.due("count " + what, x.count(what), model.call("count", what, 0, 0));
            }
        }
    }

    private static String spoil(String text, Random random) {
        StringBuilder spoilt = new StringBuilder(text);
        for (int n = random.nextInt(4); n > 0 && spoilt.length() > 0; n--) {
            int place = random.nextInt(spoilt.length());
            char letter = LETTERS.charAt(random.nextInt(LETTERS.length()));
            switch (random.nextInt(4)) {
                case 0: spoilt.setCharAt(place, letter); break;
                case 1: spoilt.insert(place, letter); break;
                case 2: spoilt.deleteCharAt(place); break;
                default: spoilt.setLength(place);
            }
        }
        return spoilt.toString();
    }

    private static String hallText(Random random) {
        StringBuilder text = new StringBuilder();
        int wide = random.nextInt(3) == 0 ? 2 : 10;
        int seats = random.nextInt(8) == 0 ? random.nextInt(4) : 4;
        for (int s = 0; s < seats; s++) {
            text.append("s").append(random.nextInt(wide)).append(' ').append(random.nextInt(wide)).append(';');
        }
        int things = seats == 0 ? 0 : random.nextInt(4) == 0 ? random.nextInt(5) : 4;
        for (int t = 0; t < things; t++) {
            int a = random.nextInt(6);
            int b = (a + 1 + random.nextInt(5)) % 6;
            text.append("t").append(random.nextInt(seats)).append(' ').append(random.nextInt(32)).append(' ')
                .append(a).append(' ').append(b).append(';');
        }
        if (random.nextInt(4) != 0) {
            text.append("h").append(1 + random.nextInt(4)).append(random.nextBoolean() ? " ;" : ";");
        }
        if (random.nextInt(4) != 0) {
            text.append(" e ").append(1 + random.nextInt(random.nextBoolean() ? 60 : 200)).append(";");
        }
        return text.toString();
    }

    private static final class Run {
        private final Random random;
        private final MindsByTen x = new MindsByTen();
        private final Model model = new Model();
        private int calls = 0;

        Run(int seed) {
            random = new Random(seed);
            c.about("run " + seed);
        }

        void play() {
            while (calls < CALLS_OF_ONE && c.wrong() == 0) {
                if (calls == 0 || random.nextInt(250) == 0) {
                    tellHall();
                }
                int kind = random.nextInt(10);
                if (kind < 4) {
                    call(STEPS[random.nextInt(STEPS.length)]);
                } else if (kind < 6) {
                    call(ASKED[random.nextInt(ASKED.length)]);
                } else {
                    call(CALLS[random.nextInt(CALLS.length)]);
                }
            }
        }

        private void tellHall() {
            call("clear", 0, 0, 0);
            String text = hallText(random);
            for (int i = 0; i < text.length(); i++) {
                call("type", text.charAt(i), 0, 0);
            }
            call("hall", 0, 0, 0);
        }

        private int number() {
            switch (random.nextInt(30)) {
                case 0: return -1;
                case 1: return random.nextInt(12);
                case 2: return random.nextInt();
                default: return random.nextInt(5);
            }
        }

        private void call(String name) {
            if (name.equals("hall") && random.nextInt(8) != 0) {
                return;
            }
            int first = number();
            if (name.equals("type")) {
                first = LETTERS.charAt(random.nextInt(LETTERS.length()));
            } else if (name.equals("encores") || name.equals("felt")) {
                first = random.nextInt(32);
            } else if (name.equals("back")) {
                first = random.nextInt(12) == 0 ? number() : random.nextInt(2);
            }
            call(name, first, number(), name.equals("odds") ? random.nextInt(2) : number());
        }

        private void call(String name, int a, int b, int d) {
            if (calls == CALLS_OF_ONE) {
                return;
            }
            calls++;
            c.due("call " + calls + ", " + name + "(" + a + ", " + b + ", " + d + ")", answer(name, a, b, d),
                model.call(name, a, b, d));
        }

        private long answer(String name, int a, int b, int d) {
            switch (name) {
                case "type": return x.type(a);
                case "clear": return x.clear();
                case "hall": return x.hall();
                case "seat": return x.seat(a, b);
                case "thing": return x.thing(a, b);
                case "now": return x.now(a);
                case "goes": return x.goes(a);
                case "takes": return x.takes(a);
                case "leaves": return x.leaves(a);
                case "encores": return x.encores(a);
                case "undo": return x.undo();
                case "back": return x.back(a);
                case "left": return x.left();
                case "see": return x.see();
                case "seenBy": return x.seenBy(a);
                case "odds": return x.odds(a, b, d);
                case "knows": return x.knows(a);
                case "felt": return x.felt(a);
                case "whose": return x.whose(a);
                case "tells": return x.tells(a, b, d);
                case "fits": return x.fits();
                case "forget": return x.forget();
                case "rate": return x.rate(a, b);
                case "keep": return x.keep(a);
                case "again": return x.again(a);
                case "count": return x.count(a);
                default: return x.trace();
            }
        }
    }
}
