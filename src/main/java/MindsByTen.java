import java.util.Arrays;

/** Mind readers must return it by ten: a hall of seats, things thought of, and one who carries them blindfold. */
public final class MindsByTen {
    public static final int BAD = -1, STATE = -2, FULL = -3, NONE = -9;
    public static final int NO = -1000000;

    private static final int MOST_SEATS = 4, MOST_THINGS = 4, TOPICS = 6;
    private static final int MOST_MARKS = 31, LAST_MINUTE = 999, LONGEST_ENCORE = 30;
    private static final int FIRST_HANDS = 2, MOST_HANDS = 4, FIRST_TEN = 60, LATEST_TEN = 200;
    private static final int MOST_UNDONE = 10, IMAGES = 2, MOST_CLAIMS = 6, LAWS = 3;

    /** Where she is ahead of her first way; it has a place behind the seats', so that ways from it are no case apart. */
    private static final int DOOR = MOST_SEATS;
    /** Where a thing is that is with her. */
    private static final int HER = MOST_SEATS;

    private final Script script = new Script();
    private Hall hall = new Hall();
    private Hall spare = new Hall();
    private final Moment now = new Moment();
    private final Memory memory = new Memory();
    private final Moment[] images = new Moment[IMAGES];
    private final boolean[] kept = new boolean[IMAGES];
    private final Claims claims = new Claims();
    private final Ways ways = new Ways();
    private final int[] together = new int[TOPICS];
    private final int[] outcomes = new int[MOST_THINGS + 1];
    private long trace = 0;

    public MindsByTen() {
        for (int i = 0; i < IMAGES; i++) {
            images[i] = new Moment();
        }
    }

    // ---- the hall

    public int type(int letter) {
        if (letter < 0 || letter > 255) {
            return BAD;
        }
        return script.append((char) letter) ? script.length : FULL;
    }

    public int clear() {
        int had = script.length;
        script.length = 0;
        return had;
    }

    public int hall() {
        int items = script.tell(spare);
        if (script.fault >= 0) {
            return -10 - script.fault;
        }
        Hall told = spare;
        spare = hall;
        hall = told;
        beginAnew();
        return items;
    }

    private void beginAnew() {
        script.length = 0;
        now.begin(hall);
        memory.many = 0;
        for (int i = 0; i < IMAGES; i++) {
            kept[i] = false;
        }
        claims.drop();
        ways.drop();
    }

    public int seat(int s, int what) {
        if (!hall.hasSeat(s)) {
            return BAD;
        }
        switch (what) {
            case 0: return hall.x[s];
            case 1: return hall.y[s];
            case 2: return now.thingsAt(s, hall);
            case 3: return hall.way(now.at, s);
            default: return BAD;
        }
    }

    public int thing(int t, int what) {
        if (!hall.hasThing(t)) {
            return BAD;
        }
        switch (what) {
            case 0: return hall.owner[t];
            case 1: return hall.marks[t];
            case 2: return hall.topicA[t];
            case 3: return hall.topicB[t];
            case 4: return now.where[t] == HER ? NONE : now.where[t];
            case 5: return now.hasRead(t) ? 1 : 0;
            default: return BAD;
        }
    }

    public int now(int what) {
        switch (what) {
            case 0: return now.minute;
            case 1: return now.at == DOOR ? NONE : now.at;
            case 2: return now.thingsAt(HER, hall);
            case 3: return now.strays(hall);
            case 4: return now.read;
            case 5: return memory.many;
            default: return BAD;
        }
    }

    // ---- what is done

    public int goes(int s) {
        if (!hall.hasSeat(s)) {
            return BAD;
        }
        int way = hall.way(now.at, s);
        if (now.at == s || now.minute + way > LAST_MINUTE) {
            return STATE;
        }
        memory.push(now);
        now.at = s;
        now.minute += way;
        return way;
    }

    public int takes(int t) {
        if (!hall.hasThing(t)) {
            return BAD;
        }
        if (!now.mayTake(t, hall) || now.minute >= LAST_MINUTE) {
            return STATE;
        }
        memory.push(now);
        now.where[t] = HER;
        now.read |= 1 << t;
        now.minute++;
        return now.held(hall);
    }

    public int leaves(int t) {
        if (!hall.hasThing(t)) {
            return BAD;
        }
        if (!now.mayLeave(t) || now.minute >= LAST_MINUTE) {
            return STATE;
        }
        memory.push(now);
        now.where[t] = now.at;
        now.minute++;
        return now.held(hall);
    }

    public int encores(int n) {
        if (n < 1 || n > LONGEST_ENCORE) {
            return BAD;
        }
        if (now.minute + n > LAST_MINUTE) {
            return STATE;
        }
        memory.push(now);
        now.minute += n;
        return now.minute;
    }

    public int undo() {
        if (!memory.popInto(now)) {
            return STATE;
        }
        return memory.many;
    }

    // ---- back by ten

    public int back(int what) {
        switch (what) {
            case 0: return ways.fewest(hall, now, 0);
            case 1: return ways.firstStep(hall, now);
            default: return BAD;
        }
    }

    public int left() {
        return hall.ten - now.minute - ways.fewest(hall, now, 0);
    }

    public int see() {
        for (int n = hall.things; n >= 0; n--) {
            if (now.minute + ways.fewest(hall, now, n) <= hall.ten) {
                return n;
            }
        }
        return NONE;
    }

    public int seenBy(int n) {
        if (n < 0 || n > MOST_THINGS) {
            return BAD;
        }
        return n > hall.things ? NONE : ways.fewest(hall, now, n);
    }

    public int odds(int x, int k, int what) {
        if (x < 0 || x > 10 || k < 0 || k > MOST_THINGS || what < 0 || what > 1) {
            return BAD;
        }
        int strays = Integer.bitCount(now.strays(hall));
        int lower = countOutcomes(strays, x);
        int upper = 0;
        for (int stay = 0; stay <= k && stay < outcomes.length; stay++) {
            upper += outcomes[stay];
        }
        int common = commonDivisor(lower, upper);
        if (common <= 0) {
            return BAD;
        }
        return (what == 0 ? upper : lower) / common;
    }

    /** Of ten to the strays: in how many so and so many stay behind, a row; answers how many there are in all. */
    private int countOutcomes(int strays, int x) {
        Arrays.fill(outcomes, 0);
        outcomes[0] = 1;
        int all = 1;
        for (int i = 0; i < strays; i++) {
            for (int stay = outcomes.length - 1; stay > 0; stay--) {
                outcomes[stay] = outcomes[stay] * (10 - x) + outcomes[stay - 1] * x;
            }
            outcomes[0] *= 10 - x;
            all *= 10;
        }
        return all;
    }

    private static int commonDivisor(int a, int b) {
        for (int i = 0; i < 64 && b > 0; i++) {
            int rest = a % b;
            a = b;
            b = rest;
        }
        return a;
    }

    // ---- what she knows

    public int knows(int what) {
        if (what < 0 || what > 2) {
            return BAD;
        }
        long alone = joinTopics();
        int most = 1;
        int twice = 0;
        for (int a = 0; a < TOPICS; a++) {
            int size = Integer.bitCount(together[a]);
            most = Math.max(most, size);
            twice += size - 1;
        }
        if (what == 2) {
            return most;
        }
        return what == 0 ? twice / 2 : twice / 2 - Long.bitCount(alone);
    }

    /** Fills, for each topic, all that go together with it; answers the twos of single things, as bits. */
    private long joinTopics() {
        for (int a = 0; a < TOPICS; a++) {
            together[a] = 1 << a;
        }
        long alone = 0;
        for (int t = 0; t < hall.things; t++) {
            if (now.hasRead(t)) {
                int a = Math.min(hall.topicA[t], hall.topicB[t]);
                int b = Math.max(hall.topicA[t], hall.topicB[t]);
                alone |= 1L << (a * TOPICS + b);
                joinGroups(together[a] | together[b]);
            }
        }
        return alone;
    }

    private void joinGroups(int all) {
        for (int a = 0; a < TOPICS; a++) {
            if ((all >> a & 1) == 1) {
                together[a] = all;
            }
        }
    }

    // ---- whose, laws

    public int felt(int marks) {
        if (marks < 0 || marks > MOST_MARKS) {
            return BAD;
        }
        return claims.addFelt(marks) ? claims.felt : FULL;
    }

    public int whose(int i) {
        if (i < -1 || i >= claims.felt) {
            return BAD;
        }
        if (i == -1) {
            return claims.countWays(hall);
        }
        int candidates = claims.candidates(hall, i);
        for (int t = 0; t < hall.things; t++) {
            if (candidates == 1 << t) {
                return t;
            }
        }
        return NONE;
    }

    public int tells(int t, int from, int to) {
        if (!hall.hasThing(t) || !hall.hasSeat(from) || !hall.hasSeat(to) || from == to) {
            return BAD;
        }
        return claims.addTold(t, from, to) ? claims.told : FULL;
    }

    public int fits() {
        return claims.lawsThatFit(hall);
    }

    public int forget() {
        int both = claims.felt + claims.told;
        claims.drop();
        return both;
    }

    // ---- kinds, images

    public int rate(int kind, int t) {
        if (!hall.hasThing(t)) {
            return NO;
        }
        switch (kind) {
            case 0: return rateThing(t);
            case 1: return rateComb(t);
            case 2: return rateRoom(t);
            case 3: return rateCurate(t);
            case 4: return rateBishop(t);
            case 5: return rateTwin(t);
            default: return NO;
        }
    }

    private int rateThing(int t) {
        trace += 1;
        return Integer.bitCount(hall.marks[t]);
    }

    private int rateComb(int t) {
        trace += 10;
        int from = now.where[t] == HER ? now.at : now.where[t];
        return rateThing(t) + hall.way(from, hall.owner[t]);
    }

    private int rateRoom(int t) {
        trace += 100;
        return rateThing(t) - hall.topicA[t] - hall.topicB[t];
    }

    private int rateCurate(int t) {
        trace += 1000;
        return 2 * rateComb(t);
    }

    private int rateBishop(int t) {
        trace += 10000;
        return rateRoom(t) + t;
    }

    private int rateTwin(int t) {
        trace += 100000;
        return rateThing(t) + now.minute;
    }

    public int keep(int image) {
        if (image < 0 || image >= IMAGES) {
            return BAD;
        }
        images[image].become(now);
        kept[image] = true;
        return now.minute;
    }

    public int again(int image) {
        if (image < 0 || image >= IMAGES) {
            return BAD;
        }
        if (!kept[image]) {
            return STATE;
        }
        now.become(images[image]);
        memory.many = 0;
        return now.minute;
    }

    public int count(int what) {
        switch (what) {
            case 0: return hall.seats;
            case 1: return hall.things;
            case 2: return hall.hands;
            case 3: return hall.ten;
            case 4: return claims.felt;
            case 5: return claims.told;
            case 6: return script.length;
            default: return BAD;
        }
    }

    public long trace() {
        return trace;
    }

    /** What a text told: seats, things, hands, ten. */
    private static final class Hall {
        int seats, things, hands, ten;
        boolean handsTold, tenTold;
        /** One place more than seats: the door's, which stays 0, 0. */
        final int[] x = new int[MOST_SEATS + 1];
        final int[] y = new int[MOST_SEATS + 1];
        final int[] owner = new int[MOST_THINGS];
        final int[] marks = new int[MOST_THINGS];
        final int[] topicA = new int[MOST_THINGS];
        final int[] topicB = new int[MOST_THINGS];

        Hall() {
            empty();
        }

        void empty() {
            seats = 0;
            things = 0;
            hands = FIRST_HANDS;
            ten = FIRST_TEN;
            handsTold = false;
            tenTold = false;
        }

        boolean hasSeat(int s) {
            return s >= 0 && s < seats;
        }

        boolean hasThing(int t) {
            return t >= 0 && t < things;
        }

        int way(int from, int to) {
            if (from < 0 || from > DOOR || to < 0 || to > DOOR) {
                return 0;
            }
            return Math.abs(x[from] - x[to]) + Math.abs(y[from] - y[to]);
        }

        int nearestTo(int s) {
            int nearest = NONE;
            for (int other = 0; other < seats; other++) {
                if (other != s && (nearest == NONE || way(s, other) < way(s, nearest))) {
                    nearest = other;
                }
            }
            return nearest;
        }
    }

    /** The text, and how it is read, token by token; a fault, once found, stops all further reading. */
    private static final class Script {
        static final int MOST_LETTERS = 150, HIGHEST_NUMBER = 200;
        /** Kinds of tokens beside the letters themselves. */
        static final int NUMBER = 256, WRONG = 257, END = 258;

        final char[] letters = new char[MOST_LETTERS];
        int length, fault;
        private int behind, place, kind, value;

        boolean append(char letter) {
            if (length >= MOST_LETTERS) {
                return false;
            }
            letters[length] = letter;
            length++;
            return true;
        }

        /** Puts what the text tells into a hall; how many items, or fault is 0 or more. */
        int tell(Hall into) {
            into.empty();
            fault = -1;
            behind = 0;
            int items = 0;
            for (int i = 0; i <= MOST_LETTERS; i++) {
                step();
                if (fault >= 0 || kind == END) {
                    break;
                }
                switch (kind) {
                    case 's': tellSeat(into); break;
                    case 't': tellThing(into); break;
                    case 'h': tellHands(into); break;
                    case 'e': tellTen(into); break;
                    default: refuse();
                }
                step();
                if (kind != ';') {
                    refuse();
                }
                items++;
            }
            return items;
        }

        private void tellSeat(Hall into) {
            int s = into.seats;
            if (s >= MOST_SEATS) {
                refuse();
                return;
            }
            into.x[s] = number(0, 9);
            into.y[s] = number(0, 9);
            into.seats++;
        }

        private void tellThing(Hall into) {
            int t = into.things;
            if (t >= MOST_THINGS) {
                refuse();
                return;
            }
            into.owner[t] = number(0, into.seats - 1);
            into.marks[t] = number(0, MOST_MARKS);
            into.topicA[t] = number(0, TOPICS - 1);
            into.topicB[t] = number(0, TOPICS - 1);
            if (into.topicA[t] == into.topicB[t]) {
                refuse();
            }
            into.things++;
        }

        private void tellHands(Hall into) {
            if (into.handsTold) {
                refuse();
            }
            into.handsTold = true;
            into.hands = number(1, MOST_HANDS);
        }

        private void tellTen(Hall into) {
            if (into.tenTold) {
                refuse();
            }
            into.tenTold = true;
            into.ten = number(1, LATEST_TEN);
        }

        private int number(int lowest, int highest) {
            step();
            if (kind != NUMBER || value < lowest || value > highest) {
                refuse();
            }
            return value;
        }

        /** The first fault stays: what is refused behind it is only its echo. */
        private void refuse() {
            if (fault < 0) {
                fault = place;
            }
        }

        private void step() {
            if (fault >= 0) {
                return;
            }
            int i = behind;
            while (i < length && letters[i] == ' ') {
                i++;
            }
            place = i;
            if (i >= length) {
                kind = END;
            } else if (isDigit(letters[i])) {
                stepNumber();
            } else {
                kind = letters[i];
                behind = i + 1;
            }
        }

        private void stepNumber() {
            value = 0;
            int i = place;
            while (i < length && isDigit(letters[i])) {
                // so that many digits can't wrap round to a small number
                value = Math.min(value * 10 + letters[i] - '0', HIGHEST_NUMBER + 1);
                i++;
            }
            behind = i;
            boolean zeroAhead = letters[place] == '0' && i - place > 1;
            kind = zeroAhead || value > HIGHEST_NUMBER ? WRONG : NUMBER;
        }

        private static boolean isDigit(char letter) {
            return letter >= '0' && letter <= '9';
        }
    }

    /** How things are at one time. */
    private static final class Moment {
        int minute = 0, at = DOOR, read = 0;
        final int[] where = new int[MOST_THINGS];

        void begin(Hall hall) {
            minute = 0;
            at = DOOR;
            read = 0;
            for (int t = 0; t < MOST_THINGS; t++) {
                where[t] = hall.owner[t];
            }
        }

        void become(Moment other) {
            minute = other.minute;
            at = other.at;
            read = other.read;
            System.arraycopy(other.where, 0, where, 0, MOST_THINGS);
        }

        boolean hasRead(int t) {
            return (read >> t & 1) == 1;
        }

        int thingsAt(int place, Hall hall) {
            int bits = 0;
            for (int t = 0; t < hall.things; t++) {
                if (where[t] == place) {
                    bits |= 1 << t;
                }
            }
            return bits;
        }

        int held(Hall hall) {
            return Integer.bitCount(thingsAt(HER, hall));
        }

        int strays(Hall hall) {
            int bits = 0;
            for (int t = 0; t < hall.things; t++) {
                if (where[t] != hall.owner[t]) {
                    bits |= 1 << t;
                }
            }
            return bits;
        }

        boolean mayTake(int t, Hall hall) {
            return at != DOOR && where[t] == at && held(hall) < hall.hands;
        }

        boolean mayLeave(int t) {
            return at != DOOR && where[t] == HER;
        }
    }

    /** The moments ahead of the latest steps; a ring, so that the oldest is lost when it is full. */
    private static final class Memory {
        final Moment[] moments = new Moment[MOST_UNDONE];
        int many = 0;
        private int next = 0;

        Memory() {
            for (int i = 0; i < MOST_UNDONE; i++) {
                moments[i] = new Moment();
            }
        }

        void push(Moment now) {
            moments[next].become(now);
            next = (next + 1) % MOST_UNDONE;
            many = Math.min(many + 1, MOST_UNDONE);
        }

        boolean popInto(Moment now) {
            if (many == 0) {
                return false;
            }
            many--;
            next = (next + MOST_UNDONE - 1) % MOST_UNDONE;
            now.become(moments[next]);
            return true;
        }
    }

    /** What was felt and told. */
    private static final class Claims {
        int felt = 0, told = 0;
        private final int[] feltMarks = new int[MOST_CLAIMS];
        private final int[] thing = new int[MOST_CLAIMS];
        private final int[] from = new int[MOST_CLAIMS];
        private final int[] to = new int[MOST_CLAIMS];

        void drop() {
            felt = 0;
            told = 0;
        }

        boolean addFelt(int marks) {
            if (felt >= MOST_CLAIMS) {
                return false;
            }
            feltMarks[felt] = marks;
            felt++;
            return true;
        }

        boolean addTold(int t, int fromSeat, int toSeat) {
            if (told >= MOST_CLAIMS) {
                return false;
            }
            thing[told] = t;
            from[told] = fromSeat;
            to[told] = toSeat;
            told++;
            return true;
        }

        int countWays(Hall hall) {
            int ways = 0;
            for (int way = 0; way < waysToTry(hall); way++) {
                if (isWay(hall, way)) {
                    ways++;
                }
            }
            return ways;
        }

        /** All things that the i-th felt is in some way, as bits. */
        int candidates(Hall hall, int i) {
            int bits = 0;
            for (int way = 0; way < waysToTry(hall); way++) {
                if (isWay(hall, way)) {
                    bits |= 1 << thingIn(way, i);
                }
            }
            return bits;
        }

        /** A way is written as two bits for each felt: its thing. More felt than things have none. */
        private int waysToTry(Hall hall) {
            return felt > hall.things ? 0 : 1 << 2 * felt;
        }

        private static int thingIn(int way, int i) {
            return way >> 2 * i & 3;
        }

        private boolean isWay(Hall hall, int way) {
            int used = 0;
            for (int i = 0; i < felt; i++) {
                int t = thingIn(way, i);
                if (!hall.hasThing(t) || (used >> t & 1) == 1
                        || Integer.bitCount(hall.marks[t] ^ feltMarks[i]) > 1) {
                    return false;
                }
                used |= 1 << t;
            }
            return true;
        }

        int lawsThatFit(Hall hall) {
            int bits = 0;
            for (int law = 0; law < LAWS; law++) {
                if (fitsAll(hall, law)) {
                    bits |= 1 << law;
                }
            }
            return bits;
        }

        private boolean fitsAll(Hall hall, int law) {
            for (int i = 0; i < told; i++) {
                if (to[i] != seatByLaw(hall, law, thing[i], from[i])) {
                    return false;
                }
            }
            return true;
        }

        private static int seatByLaw(Hall hall, int law, int t, int fromSeat) {
            switch (law) {
                case 0: return hall.owner[t];
                case 1: return hall.nearestTo(fromSeat);
                default: return fromSeat + 1 < hall.seats ? fromSeat + 1 : 0;
            }
        }
    }

    /**
     * The fewest minutes from every state of a hall to one with all things back and n of them read at least. They hang
     * on the hall alone, so they are looked for once for each n, from the ends backward, and stand until the hall is
     * told anew. Who is not with its owner was taken, so it is read: of things that are not read only one place counts.
     */
    private static final class Ways {
        /** A state has six digits of a thing (seats, HER, UNREAD), and above them where she is. */
        static final int UNREAD = HER + 1, DIGITS = 6, PLACES = 6 * 6 * 6 * 6, STATES = (DOOR + 1) * PLACES;
        private static final int[] UNIT = {1, 6, 36, 216};
        /** Minutes for all n stand in one long, so that the table stays small: 12 bits for each. */
        static final int WIDTH = 12, FAR = (1 << WIDTH) - 1;
        /** Four things one by one take 4 * (18 + 1 + 18 + 1) minutes at most; a step not yet weighed 18 more. */
        static final int BOUND = 256;

        private final long[] table = new long[STATES];
        /** Chains of states that wait, one for each minute; a state's neighbours in its chain, or NONE. */
        private final int[] first = new int[BOUND];
        private final int[] after = new int[STATES];
        private final int[] ahead = new int[STATES];
        private final int[] digit = new int[MOST_THINGS];
        private int known = 0;
        private int goal = 0;

        void drop() {
            known = 0;
        }

        int fewest(Hall hall, Moment now, int n) {
            if (n < 0 || n > MOST_THINGS) {
                return FAR;
            }
            if ((known >> n & 1) == 0) {
                search(hall, n);
                known |= 1 << n;
            }
            return minutes(stateOf(hall, now), n);
        }

        int firstStep(Hall hall, Moment now) {
            int fewest = fewest(hall, now, 0);
            int state = stateOf(hall, now);
            if (fewest == 0) {
                return NONE;
            }
            for (int s = 0; s < hall.seats; s++) {
                int then = state + (s - now.at) * PLACES;
                if (s != now.at && hall.way(now.at, s) + minutes(then, 0) == fewest) {
                    return s;
                }
            }
            for (int t = 0; t < hall.things; t++) {
                int then = state + (HER - digitOf(hall, now, t)) * UNIT[t];
                if (now.mayTake(t, hall) && 1 + minutes(then, 0) == fewest) {
                    return 10 + t;
                }
            }
            for (int t = 0; t < hall.things; t++) {
                int then = state + (now.at - HER) * UNIT[t];
                if (now.mayLeave(t) && 1 + minutes(then, 0) == fewest) {
                    return 20 + t;
                }
            }
            return NONE;
        }

        private static int stateOf(Hall hall, Moment now) {
            int state = now.at * PLACES;
            for (int t = 0; t < MOST_THINGS; t++) {
                state += digitOf(hall, now, t) * UNIT[t];
            }
            return state;
        }

        private static int digitOf(Hall hall, Moment now, int t) {
            return hall.hasThing(t) && now.hasRead(t) ? now.where[t] : UNREAD;
        }

        private int minutes(int state, int n) {
            if (state < 0 || state >= STATES) {
                return FAR;
            }
            return (int) (table[state] >>> n * WIDTH) & FAR;
        }

        private void setMinutes(int state, int n, int minutes) {
            table[state] = table[state] & ~((long) FAR << n * WIDTH) | (long) minutes << n * WIDTH;
        }

        private void search(Hall hall, int n) {
            goal = n;
            Arrays.fill(first, NONE);
            for (int state = 0; state < STATES; state++) {
                setMinutes(state, n, FAR);
            }
            offerEnds(hall);
            for (int minute = 0; minute < BOUND; minute++) {
                // no state waits again once it was weighed, so a chain holds each state once at most
                for (int i = 0; i < STATES && first[minute] >= 0; i++) {
                    int state = first[minute];
                    unchain(state, minute);
                    weigh(hall, state, minute);
                }
            }
        }

        private void offerEnds(Hall hall) {
            for (int read = 0; read < 1 << hall.things; read++) {
                if (Integer.bitCount(read) >= goal) {
                    int places = 0;
                    for (int t = 0; t < MOST_THINGS; t++) {
                        places += ((read >> t & 1) == 1 ? hall.owner[t] : UNREAD) * UNIT[t];
                    }
                    for (int at = 0; at <= DOOR; at++) {
                        offer(at * PLACES + places, 0);
                    }
                }
            }
        }

        /** Offers all states from which one step leads to this one. */
        private void weigh(Hall hall, int state, int minute) {
            int at = state / PLACES;
            if (at >= hall.seats) {
                return;
            }
            for (int s = 0; s < hall.seats; s++) {
                offer(state + (s - at) * PLACES, minute + hall.way(s, at));
            }
            offer(state + (DOOR - at) * PLACES, minute + hall.way(DOOR, at));
            int held = readDigits(state);
            for (int t = 0; t < hall.things; t++) {
                if (digit[t] == HER) {
                    offer(state + (at - HER) * UNIT[t], minute + 1);
                    if (hall.owner[t] == at) {
                        offer(state + (UNREAD - HER) * UNIT[t], minute + 1);
                    }
                } else if (digit[t] == at && held < hall.hands) {
                    offer(state + (HER - at) * UNIT[t], minute + 1);
                }
            }
        }

        /** Answers how many things are with her. */
        private int readDigits(int state) {
            int rest = state % PLACES;
            int held = 0;
            for (int t = 0; t < MOST_THINGS; t++) {
                digit[t] = rest % DIGITS;
                rest /= DIGITS;
                if (digit[t] == HER) {
                    held++;
                }
            }
            return held;
        }

        private void offer(int state, int minute) {
            if (state < 0 || state >= STATES || minute < 0 || minute >= BOUND) {
                return;
            }
            int before = minutes(state, goal);
            if (minute >= before) {
                return;
            }
            if (before < BOUND) {
                unchain(state, before);
            }
            setMinutes(state, goal, minute);
            chain(state, minute);
        }

        private void chain(int state, int minute) {
            int old = first[minute];
            after[state] = old;
            ahead[state] = NONE;
            if (old >= 0 && old < STATES) {
                ahead[old] = state;
            }
            first[minute] = state;
        }

        private void unchain(int state, int minute) {
            int before = ahead[state];
            int behind = after[state];
            if (before >= 0 && before < STATES) {
                after[before] = behind;
            } else {
                first[minute] = behind;
            }
            if (behind >= 0 && behind < STATES) {
                ahead[behind] = before;
            }
        }
    }
}
