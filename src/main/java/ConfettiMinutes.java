import java.util.NoSuchElementException;

/** Laws of a parish, torn in bits and thrown over a pair that is wed; who holds more than half of one has a right. */
public final class ConfettiMinutes {
    public static final int NONE = -1;

    /** LAWS at most, and PEOPLE. */
    private static final int MOST = 5;
    private static final int MOST_BITS = 4;
    /** A slot for each BIT that there may be. */
    private static final int SLOTS = 20;
    private static final int STREETS = 8;
    private static final int WINDS = 7;
    /** The strongest WIND, up or down. */
    private static final int GALE = 3;
    /** A BIT's place is told as bit() tells it: HELD and who, or AWAY. */
    private static final int HELD = 10;
    private static final int AWAY = 20;
    private static final int NOBODY = 5;
    private static final int LINE_SIGNS = 9;
    private static final int RULE_SIGNS = 40;
    private static final int WEDDING_SIGNS = 60;
    private static final int FAR = 60;
    private static final int NEAR = 30;
    private static final int TRIAL_DAYS = 10;
    private static final int OTHER_FAULT = -10000;

    private final Script text = new Script();
    private final Row told = new Row();
    private final Town now = new Town();
    private final Town before = new Town();
    private final Town dream = new Town();
    private final Past past = new Past();
    private final Weather weather = new Weather();
    private final Shares shares = new Shares();
    private final Sights sights = new Sights();
    private final Hearsay hearsay = new Hearsay();
    private final Flights flights = new Flights();
    private Rule blowing = new Rule();
    private Rule trial = new Rule();

    public ConfettiMinutes() {
    }

    // ---- laws, people

    public int sign(int v) {
        return text.append(v);
    }

    public boolean end(int n) {
        return text.cut(n);
    }

    public int laws() {
        return readLines('1', '4', true);
    }

    public int people() {
        return readLines('0', '7', false);
    }

    public int rule() {
        int fault = trial.read(text, text.take());
        if (fault >= 0) {
            return -1 - fault;
        }
        Rule old = blowing;
        blowing = trial;
        trial = old;
        return 0;
    }

    public int law(int law, int what) throws NoSuchElementException {
        if (!now.hasLaw(law) || !isWithin(what, 0, 5)) {
            throw new NoSuchElementException();
        }
        switch (what) {
            case 0:
                return now.bitsOf(law);
            case 1:
                return now.carried >> law & 1;
            case 2:
                return now.flung >> law & 1;
            case 3:
                return now.lyingOf(law);
            case 4:
                return now.heldOf(law);
            default:
                return now.rightHolder(law);
        }
    }

    public int bit(int law, int bit) throws NoSuchElementException {
        if (!now.hasBit(law, bit)) {
            throw new NoSuchElementException();
        }
        return now.placeOf(slotOf(law, bit));
    }

    public int one(int one, int what) throws NoSuchElementException {
        if (!now.hasOne(one) || !isWithin(what, 0, 2)) {
            throw new NoSuchElementException();
        }
        switch (what) {
            case 0:
                return now.streetOf(one);
            case 1:
                return now.rightsOf(one);
            default:
                return now.heldBy(one);
        }
    }

    public int sheet(int kind, int n, int f, int step) {
        boolean missing = kind == 3;
        if (!isWithin(kind, 0, 3) || n > MOST) {
            return NONE;
        }
        if (!missing && n < 0) {
            return -2;
        }
        int sum = 0;
        for (int one = 0; one < now.peopleCount; one++) {
            int street = missing || one >= n ? 0 : streetTold(kind, f + one * step);
            now.settle(one, street);
            sum += street;
        }
        return missing ? -3 : sum;
    }

    // ---- what is done

    public int carries(int law) {
        before.become(now);
        return noted(now.carry(law));
    }

    public int flings(int law, int street) {
        before.become(now);
        return noted(now.fling(law, street));
    }

    public int sweeps(int law) {
        before.become(now);
        return noted(now.sweep(law));
    }

    public int days(int n) {
        if (!isWithin(n, 0, FAR)) {
            return NONE;
        }
        before.become(now);
        int picked = noted(weather.passDays(now, blowing, n));
        told.tell(now.lyingCount(), now.rightCount());
        return picked;
    }

    public int walks(int one, int street) {
        before.become(now);
        return noted(now.walk(one, street));
    }

    public int gives(int one, int other, int law) {
        before.become(now);
        return noted(now.give(one, other, law));
    }

    public int falls(int one) {
        before.become(now);
        return noted(now.letFall(one));
    }

    public int wind(int v) {
        before.become(now);
        return noted(now.turnWind(v));
    }

    public int wedding() {
        int length = text.take();
        int fault = text.faultOfWedding(length);
        if (fault >= 0) {
            return -1 - fault;
        }
        before.become(now);
        int done = 0;
        int refused = 0;
        int next = 0;
        for (int p = 0; p < length && refused == 0; p++) {
            if (p == next) {
                next = p + text.actLength(p);
                if (doAct(p) < 0) {
                    refused = 1;
                } else {
                    done++;
                }
            }
        }
        if (done > 0) {
            past.push(before);
        }
        told.tell(refused, now.heldCount());
        return done;
    }

    public int undo() {
        return past.pop(now);
    }

    // ---- days to come

    public int later(int law, int bit, int n) {
        if (!now.hasBit(law, bit) || !isWithin(n, 0, FAR)) {
            return NONE;
        }
        dreamOf(blowing, n);
        told.tell(dream.lyingCount(), dream.heldCount());
        return dream.placeOf(slotOf(law, bit));
    }

    public int when(int one, int law) {
        if (!now.hasOne(one) || !now.hasLaw(law)) {
            return NONE;
        }
        dream.become(now);
        for (int n = 0; n <= FAR; n++) {
            if (dream.hasRight(one, law)) {
                told.tell(dream.heldByOf(one, law), dream.lyingCount());
                return n;
            }
            weather.passDays(dream, blowing, 1);
        }
        return -2;
    }

    public int clean() {
        dream.become(now);
        for (int n = 0; n <= FAR; n++) {
            if (dream.lyingCount() == 0) {
                told.tell(dream.rightCount());
                return n;
            }
            weather.passDays(dream, blowing, 1);
        }
        return -2;
    }

    public int drifts(int n) {
        if (!isWithin(n, 0, FAR)) {
            return NONE;
        }
        dreamOf(blowing, n);
        int fullest = 0;
        for (int street = 1; street < STREETS; street++) {
            if (dream.bitsAt(street) > dream.bitsAt(fullest)) {
                fullest = street;
            }
        }
        told.tell(fullest);
        for (int street = 0; street < STREETS; street++) {
            told.add(dream.bitsAt(street));
        }
        return dream.bitsAt(fullest);
    }

    // ---- so that one has a right

    public int aims(int law, int one, int n) {
        if (!now.hasLaw(law) || !now.hasOne(one) || !isWithin(n, 0, NEAR)) {
            return NONE;
        }
        if (now.isFlung(law)) {
            return -3;
        }
        int first = -2;
        int streets = 0;
        for (int street = STREETS - 1; street >= 0; street--) {
            dream.become(now);
            dream.scatter(law, street);
            weather.passDays(dream, blowing, n);
            if (dream.hasRight(one, law)) {
                first = street;
                streets++;
            }
        }
        if (streets > 0) {
            told.tell(streets);
        }
        return first;
    }

    public int prays(int one, int n) {
        if (!now.hasOne(one) || !isWithin(n, 0, NEAR)) {
            return NONE;
        }
        int best = -GALE;
        int most = -1;
        int asItIs = 0;
        for (int v = -GALE; v <= GALE; v++) {
            dream.become(now);
            dream.wind = v;
            weather.passDays(dream, blowing, n);
            int held = dream.heldBy(one);
            if (held > most) {
                most = held;
                best = v;
            }
            if (v == now.wind) {
                asItIs = held;
            }
        }
        told.tell(most, asItIs);
        return 10 + best;
    }

    public int seeks(int one, int n) {
        if (!now.hasOne(one) || !isWithin(n, 0, NEAR)) {
            return NONE;
        }
        int best = 0;
        int most = -1;
        int way = 0;
        for (int street = 0; street < STREETS; street++) {
            dream.become(now);
            dream.settle(one, street);
            weather.passDays(dream, blowing, n);
            int held = dream.heldBy(one);
            int far = Math.abs(street - now.streetOf(one));
            if (held > most || held == most && far < way) {
                most = held;
                best = street;
                way = far;
            }
        }
        told.tell(most, way);
        return best;
    }

    // ---- whose bits they are

    public int whole(int law) {
        if (!now.hasLaw(law)) {
            return NONE;
        }
        if (now.heldOf(law) < now.bitsOf(law)) {
            return -2;
        }
        int holders = now.holdersOf(law);
        told.tell(holders);
        return Integer.bitCount(holders);
    }

    public int quorum() {
        int set = shares.hittingSet(now);
        told.tell(set, shares.lawsHeld(now));
        return Integer.bitCount(set);
    }

    public int awards() {
        int most = shares.weighAwards(now);
        shares.tellAwards(now, told);
        return most;
    }

    public int needs(int one, int law) {
        if (!now.hasOne(one) || !now.hasLaw(law)) {
            return NONE;
        }
        int own = now.heldByOf(one, law);
        int wanted = Math.max(0, now.bitsOf(law) / 2 + 1 - own);
        if (!now.isFlung(law) || wanted > now.heldOf(law) - own) {
            return -2;
        }
        told.tell(own);
        return wanted;
    }

    public int line() {
        told.clear();
        int placed = 0;
        for (int turn = 0; turn < now.peopleCount; turn++) {
            int next = shares.richest(now, placed);
            told.add(next);
            placed |= 1 << next;
        }
        return now.peopleCount;
    }

    // ---- votes

    public int power(int one) {
        if (!now.hasOne(one)) {
            return NONE;
        }
        int swings = shares.swings(now, one);
        told.tellFraction(swings, 1L << now.peopleCount - 1);
        return 0;
    }

    public int least() {
        shares.weigh(now);
        int sets = 0;
        told.clear();
        for (int set = 0; set < 1 << now.peopleCount; set++) {
            if (shares.isLeast(set)) {
                if (sets == 0) {
                    told.add(set);
                }
                sets++;
            }
        }
        return sets;
    }

    // ---- which wind it was

    public int seen(int law, int bit, int street) {
        if (!now.hasBit(law, bit) || !isWithin(street, 0, STREETS - 1) || sights.ledger.isFull()) {
            return NONE;
        }
        return now.lies(slotOf(law, bit)) ? sights.ledger.add(law, bit, street) : -2;
    }

    public int forget() {
        return sights.ledger.empty();
    }

    public int guess() {
        int winds = sights.windsLeft(now, blowing, weather);
        told.tell(Integer.bitCount(winds), winds >> now.wind + GALE & 1);
        return winds;
    }

    public int looks() {
        int winds = sights.windsLeft(now, blowing, weather);
        if (winds == 0 || now.lyingCount() == 0) {
            return -2;
        }
        int best = 0;
        int fewest = WINDS + 1;
        for (int slot = 0; slot < SLOTS; slot++) {
            if (now.lies(slot)) {
                int left = sights.mostLeft(now, blowing, weather, winds, slot);
                if (left < fewest) {
                    fewest = left;
                    best = slot;
                }
            }
        }
        told.tell(fewest);
        return 10 * (best / MOST_BITS) + best % MOST_BITS;
    }

    // ---- which one it was

    public int heard(int what, int v) {
        return Hearsay.isTalk(what, v) ? hearsay.ledger.add(what, v, 0) : NONE;
    }

    public int denies() {
        return hearsay.ledger.empty();
    }

    public int fits() {
        int set = hearsay.peopleLeft(now);
        told.tell(Integer.bitCount(set));
        return set;
    }

    public int asks() {
        int set = hearsay.peopleLeft(now);
        if (set == 0) {
            return -2;
        }
        int best = 0;
        int fewest = MOST + 1;
        for (int question = 0; question < 40; question++) {
            int what = question / 10;
            int v = question % 10;
            if (Hearsay.isTalk(what, v)) {
                int left = Hearsay.mostLeft(now, set, what, v);
                if (left < fewest) {
                    fewest = left;
                    best = question;
                }
            }
        }
        told.tell(fewest);
        return best;
    }

    // ---- chances

    public int odds(int one, int law, int p) {
        if (!now.hasOne(one) || !now.hasLaw(law) || !isWithin(p, 0, 10)) {
            return NONE;
        }
        int own = now.heldByOf(one, law);
        int ways = 0;
        int all = 1;
        for (int b = 0; b < own; b++) {
            all *= 10;
        }
        for (int left = 0; left < 1 << own; left++) {
            if (2 * Integer.bitCount(left) > now.bitsOf(law)) {
                ways += waysOfLoss(left, own, p);
            }
        }
        told.tellFraction(ways, all);
        return 0;
    }

    // ---- laws of scattering

    public int went(int w, int i, int v) {
        boolean known = isWithin(w, -GALE, GALE) && isWithin(i, 0, MOST_BITS - 1) && isWithin(v, -20, 20);
        return known ? flights.ledger.add(w, i, v) : NONE;
    }

    public int clears() {
        return flights.ledger.empty();
    }

    public int scatters() {
        int left = flights.lawsLeft();
        told.clear();
        if (left != 0) {
            int first = Flights.firstOf(left);
            told.tell(Flights.timesWind(first), 10 + Flights.timesNumber(first));
        }
        return Integer.bitCount(left);
    }

    public int tries() {
        int left = flights.lawsLeft();
        if (left == 0) {
            return -2;
        }
        int best = 0;
        int fewest = Flights.LAWS + 1;
        for (int w = -GALE; w <= GALE; w++) {
            for (int i = 0; i < MOST_BITS; i++) {
                int most = Flights.mostLeft(left, w, i);
                if (most < fewest) {
                    fewest = most;
                    best = 10 * (GALE + w) + i;
                }
            }
        }
        told.tell(fewest);
        return best;
    }

    // ---- a game, laws, grasps, years

    public int handfuls(int n) {
        if (!isWithin(n, 0, 60)) {
            return NONE;
        }
        return winningHandful(n);
    }

    public int other() {
        int fault = trial.read(text, text.take());
        if (fault >= 0) {
            return OTHER_FAULT - fault;
        }
        dreamOf(trial, TRIAL_DAYS);
        int heldByIt = dream.heldCount();
        int rightsByIt = dream.rightCount();
        dreamOf(blowing, TRIAL_DAYS);
        int held = dream.heldCount();
        // Terms 2: the ROW stays with each answer below 0, and this answer may be one without being a refusal.
        if (heldByIt >= held) {
            told.tell(heldByIt, held);
            told.add(rightsByIt);
            told.add(dream.rightCount());
        }
        return heldByIt - held;
    }

    public int grasps(int v) {
        if (!isWithin(v, 0, 18)) {
            return NONE;
        }
        int pairs = 0;
        told.clear();
        for (int x = 0; x <= 9; x++) {
            for (int y = 0; y <= 9; y++) {
                if (isContent(v, x, y) && isContent(v, y, x)) {
                    if (pairs == 0) {
                        told.tell(x, y);
                    }
                    pairs++;
                }
            }
        }
        return pairs;
    }

    public int years(int seed, int n) {
        if (!isWithin(n, 1, FAR)) {
            return NONE;
        }
        dream.become(now);
        int picked = weather.passYears(dream, blowing, seed, n);
        told.tell(dream.lyingCount(), dream.rightCount());
        return picked;
    }

    // ---- kept

    public boolean keep(int i) {
        return past.store(i, now);
    }

    public boolean again(int i) {
        return past.bringBack(i, now);
    }

    public int count(int what) {
        switch (what) {
            case 0:
                return now.lawCount;
            case 1:
                return now.peopleCount;
            case 2:
                return now.wind + 10;
            case 3:
                return now.day;
            case 4:
                return now.carried;
            case 5:
                return now.flung;
            case 6:
                return now.lyingCount();
            case 7:
                return now.heldCount();
            default:
                return countKept(what);
        }
    }

    public long row(int i) throws NoSuchElementException {
        if (!isWithin(i, 0, told.size() - 1)) {
            throw new NoSuchElementException();
        }
        return told.at(i);
    }

    private int countKept(int what) {
        switch (what) {
            case 8:
                return sights.ledger.size();
            case 9:
                return hearsay.ledger.size();
            case 10:
                return flights.ledger.size();
            case 11:
                return past.size();
            case 12:
                return told.size();
            case 13:
                return text.length();
            default:
                return -100;
        }
    }

    private int readLines(char least, char most, boolean ofLaws) {
        int length = text.take();
        if (length == 0) {
            return 0;
        }
        int fault = text.faultOfLines(length, least, most, MOST - (ofLaws ? now.lawCount : now.peopleCount));
        if (fault >= 0) {
            return -1 - fault;
        }
        for (int p = 0; p < length; p += 2) {
            if (ofLaws) {
                now.addLaw(text.digitAt(p));
            } else {
                now.addOne(text.digitAt(p));
            }
        }
        past.forgetAll();
        return (length + 1) / 2;
    }

    /** What was done can be undone, what was refused can't: so each deed passes its answer through here. */
    private int noted(int answer) {
        if (answer >= 0) {
            past.push(before);
        }
        return answer;
    }

    private int doAct(int p) {
        int first = text.digitAt(p + 1);
        int second = text.digitAt(p + 2);
        switch (text.at(p)) {
            case 'n':
                return weather.passDays(now, blowing, first);
            case 'c':
                return now.carry(first);
            case 't':
                return now.fling(first, second);
            case 's':
                return now.sweep(first);
            case 'p':
                return now.walk(first, second);
            case 'g':
                return now.give(first, second, text.digitAt(p + 3));
            case 'l':
                return now.letFall(first);
            default:
                return now.turnWind(text.at(p + 1) == '-' ? -second : second);
        }
    }

    private void dreamOf(Rule rule, int n) {
        dream.become(now);
        weather.passDays(dream, rule, n);
    }

    private static int streetTold(int kind, int entry) {
        if (kind == 0) {
            return clamp((byte) entry, 0, STREETS - 1);
        }
        return clamp(kind == 1 ? (short) entry : entry, 0, STREETS - 1);
    }

    /** Of 10 to the power of own equally likely losses, how many leave just the bits of the set left. */
    private static int waysOfLoss(int left, int own, int p) {
        int ways = 1;
        for (int b = 0; b < own; b++) {
            ways *= (left >> b & 1) != 0 ? 10 - p : p;
        }
        return ways;
    }

    /** The least handful that leaves a heap by which the other one loses, 0 if there is none. */
    private static int winningHandful(int n) {
        long lost = 0;
        int handful = 0;
        for (int heap = 0; heap <= n; heap++) {
            handful = handfulOutOf(heap, lost);
            lost |= handful == 0 ? 1L << heap : 0;
        }
        return handful;
    }

    private static int handfulOutOf(int heap, long lost) {
        for (int root = 1; root * root <= heap; root++) {
            if ((lost >> heap - root * root & 1) != 0) {
                return root * root;
            }
        }
        return 0;
    }

    /** Whether one who grasps at own would not have more by another number. */
    private static boolean isContent(int v, int own, int others) {
        for (int x = 0; x <= 9; x++) {
            if (grasped(v, x, others) > grasped(v, own, others)) {
                return false;
            }
        }
        return true;
    }

    private static int grasped(int v, int own, int others) {
        return own + others <= v ? 2 * own : Math.max(0, v - others - 3);
    }

    private static boolean isWithin(int v, int least, int most) {
        return v >= least && v <= most;
    }

    private static int clamp(int v, int least, int most) {
        return v < least ? least : v > most ? most : v;
    }

    private static int slotOf(int law, int bit) {
        return law * MOST_BITS + bit;
    }

    /** THE TEXT. Its signs stay readable behind take(), so that the call that took it can still read them. */
    private static final class Script {
        private static final int MOST_SIGNS = 80;

        private final char[] signs = new char[MOST_SIGNS];
        private int length;

        int length() {
            return length;
        }

        int append(int v) {
            if (length > MOST_SIGNS - 4) {
                return NONE;
            }
            for (int shift = 24; shift >= 0; shift -= 8) {
                signs[length] = (char) (v >>> shift & 255);
                length++;
            }
            return length;
        }

        boolean cut(int n) {
            if (n < 0 || n > length) {
                return false;
            }
            length = n;
            return true;
        }

        int take() {
            int taken = length;
            length = 0;
            return taken;
        }

        char at(int p) {
            return p >= 0 && p < MOST_SIGNS ? signs[p] : (char) 0;
        }

        int digitAt(int p) {
            return at(p) - '0';
        }

        /** Where a text of LINES goes wrong, or -1. */
        int faultOfLines(int taken, char least, char most, int room) {
            int end = Math.min(taken, LINE_SIGNS);
            for (int p = 0; p < end; p++) {
                char c = at(p);
                boolean fine = p % 2 == 1 ? c == ';' : p / 2 < room && c >= least && c <= most;
                if (!fine) {
                    return p;
                }
            }
            if (end % 2 == 0) {
                return end;
            }
            return taken > LINE_SIGNS ? LINE_SIGNS : -1;
        }

        /** Where a text of A WEDDING goes wrong, or -1. */
        int faultOfWedding(int taken) {
            int end = Math.min(taken, WEDDING_SIGNS);
            String shape = "";
            int met = 0;
            for (int p = 0; p < end; p++) {
                if (met < shape.length()) {
                    if (!suits(shape.charAt(met), at(p))) {
                        return p;
                    }
                    met++;
                } else {
                    shape = shapeOf(at(p));
                    met = 0;
                    if (shape.isEmpty()) {
                        return p;
                    }
                }
            }
            if (met < shape.length()) {
                return end;
            }
            return taken > WEDDING_SIGNS ? WEDDING_SIGNS : -1;
        }

        int actLength(int p) {
            return 1 + shapeOf(at(p)).length();
        }

        /** What comes behind an act's sign, each by the highest digit that may stand there, or + for + and -. */
        private static String shapeOf(char act) {
            switch (act) {
                case 'n':
                case 'c':
                case 's':
                case 'l':
                    return "9";
                case 't':
                case 'p':
                    return "97";
                case 'g':
                    return "999";
                case 'w':
                    return "+3";
                default:
                    return "";
            }
        }

        private static boolean suits(char wanted, char c) {
            if (wanted == '+') {
                return c == '+' || c == '-';
            }
            return c >= '0' && c <= wanted;
        }
    }

    /** THE ROW. */
    private static final class Row {
        private static final int MOST_NUMBERS = 12;

        private final long[] numbers = new long[MOST_NUMBERS];
        private int size;

        int size() {
            return size;
        }

        long at(int i) {
            return i >= 0 && i < MOST_NUMBERS ? numbers[i] : 0;
        }

        void clear() {
            size = 0;
        }

        void add(long number) {
            if (size < MOST_NUMBERS) {
                numbers[size] = number;
                size++;
            }
        }

        void tell(long number) {
            clear();
            add(number);
        }

        void tell(long first, long second) {
            clear();
            add(first);
            add(second);
        }

        void tellFraction(long upper, long lower) {
            long a = upper;
            long b = lower;
            for (int guard = 0; guard < 100 && b != 0; guard++) {
                long rest = a % b;
                a = b;
                b = rest;
            }
            if (a == 0) {
                tell(0, 1);
            } else {
                tell(upper / a, lower / a);
            }
        }
    }

    /** A rule of DRIFT, kept with its operators behind their things: it is read once and worked out often. */
    private static final class Rule {
        private static final int DEEPEST = 4;
        private static final int MOST_DIGITS = 3;
        private static final int FARTHEST = 7;
        private static final String NAMES = "wilmskn";
        private static final int NAME_COUNT = 7;
        /** Above any NUMBER, so that NUMBERS, names and operators stand in one row. */
        private static final int NAME = 1000;
        private static final int OPERATOR = 2000;
        /** No sign of a text, as - ahead of a thing must not be taken for one. */
        private static final int NEGATED = 256;

        private final int[] known = new int[NAME_COUNT];
        private final int[] code = new int[RULE_SIGNS];
        private final int[] waiting = new int[RULE_SIGNS];
        private final int[] stack = new int[RULE_SIGNS];
        private int size;
        private int waits;
        private int depth;
        private int digits;
        private int compared;
        private boolean wantsThing;

        /** Where the text goes wrong, or -1; an empty one is no rule. */
        int read(Script text, int length) {
            size = 0;
            waits = 0;
            depth = 0;
            digits = 0;
            compared = 0;
            wantsThing = true;
            if (length == 0) {
                return -1;
            }
            int end = Math.min(length, RULE_SIGNS);
            for (int p = 0; p < end; p++) {
                char c = text.at(p);
                if (!(wantsThing ? takesThing(c) : takesBehind(c))) {
                    return p;
                }
            }
            if (wantsThing || depth > 0) {
                return end;
            }
            release(1);
            return length > RULE_SIGNS ? RULE_SIGNS : -1;
        }

        /** DRIFT of the BIT that was learnt of last. */
        int drift() {
            if (size == 0) {
                return known[0];
            }
            int top = 0;
            for (int j = 0; j < size && j < RULE_SIGNS; j++) {
                int c = code[j];
                if (c < OPERATOR) {
                    if (top < RULE_SIGNS) {
                        stack[top] = worth(c);
                        top++;
                    }
                } else if (c == OPERATOR + NEGATED) {
                    if (top > 0) {
                        stack[top - 1] = -stack[top - 1];
                    }
                } else if (top > 1) {
                    top--;
                    stack[top - 1] = joined(c - OPERATOR, stack[top - 1], stack[top]);
                }
            }
            return clamp(stack[0], -FARTHEST, FARTHEST);
        }

        /** What the names stand for, in the order of NAMES. */
        void learn(Town town, int slot, int wind, int others) {
            known[0] = wind;
            known[1] = slot % MOST_BITS;
            known[2] = slot / MOST_BITS;
            known[3] = town.bitsOf(slot / MOST_BITS);
            known[4] = town.placeOf(slot);
            known[5] = others;
            known[6] = town.day % 7;
        }

        private int worth(int thing) {
            int name = thing - NAME;
            return name >= 0 && name < NAME_COUNT ? known[name] : thing;
        }

        private boolean takesThing(char c) {
            if (c == '-') {
                hold(NEGATED);
                return true;
            }
            if (c == '(') {
                if (depth >= DEEPEST) {
                    return false;
                }
                hold(c);
                depth++;
                compared &= ~(1 << depth);
                return true;
            }
            int name = NAMES.indexOf(c);
            boolean digit = isDigit(c);
            if (!digit && name < 0) {
                return false;
            }
            emit(digit ? c - '0' : NAME + name);
            digits = digit ? 1 : MOST_DIGITS;
            wantsThing = false;
            return true;
        }

        private boolean takesBehind(char c) {
            if (isDigit(c)) {
                return takesDigit(c);
            }
            digits = MOST_DIGITS;
            if (c == ')') {
                return closes();
            }
            int strength = strengthOf(c);
            if (strength == 0 || strength == 1 && (compared >> depth & 1) != 0) {
                return false;
            }
            if (strength == 1) {
                compared |= 1 << depth;
            }
            release(strength);
            hold(c);
            wantsThing = true;
            return true;
        }

        private boolean takesDigit(char c) {
            if (digits >= MOST_DIGITS || size < 1 || size > RULE_SIGNS) {
                return false;
            }
            code[size - 1] = 10 * code[size - 1] + c - '0';
            digits++;
            return true;
        }

        private boolean closes() {
            if (depth == 0) {
                return false;
            }
            release(1);
            depth--;
            waits = Math.max(0, waits - 1);
            return true;
        }

        /** Puts down the operators that bind as strongly or more, back to the ( that is open. */
        private void release(int strength) {
            for (int w = waits; w > 0 && w <= RULE_SIGNS && strengthOf(waiting[w - 1]) >= strength; w--) {
                emit(OPERATOR + waiting[w - 1]);
                waits = w - 1;
            }
        }

        private void hold(int operator) {
            if (waits < RULE_SIGNS) {
                waiting[waits] = operator;
                waits++;
            }
        }

        private void emit(int c) {
            if (size < RULE_SIGNS) {
                code[size] = c;
                size++;
            }
        }

        private static boolean isDigit(char c) {
            return c >= '0' && c <= '9';
        }

        private static int strengthOf(int operator) {
            switch (operator) {
                case '<':
                case '>':
                case '=':
                    return 1;
                case '+':
                case '-':
                    return 2;
                case '*':
                case '/':
                    return 3;
                case NEGATED:
                    return 4;
                default:
                    return 0;
            }
        }

        private static int joined(int operator, int a, int b) {
            switch (operator) {
                case '<':
                    return a < b ? 1 : 0;
                case '>':
                    return a > b ? 1 : 0;
                case '=':
                    return a == b ? 1 : 0;
                case '+':
                    return a + b;
                case '-':
                    return a - b;
                case '*':
                    return a * b;
                default:
                    return b == 0 ? 0 : a / b;
            }
        }
    }

    /** LAWS, PEOPLE, BITS, WIND and DAY as they are at one time; a BIT's place is told as bit() tells it. */
    private static final class Town {
        private final int[] torn = new int[MOST];
        private final int[] street = new int[MOST];
        private final int[] place = new int[SLOTS];
        private int lawCount;
        private int peopleCount;
        private int carried;
        private int flung;
        private int wind = 1;
        private int day;

        Town() {
            for (int slot = 0; slot < SLOTS; slot++) {
                place[slot] = AWAY;
            }
        }

        void become(Town model) {
            System.arraycopy(model.torn, 0, torn, 0, MOST);
            System.arraycopy(model.street, 0, street, 0, MOST);
            System.arraycopy(model.place, 0, place, 0, SLOTS);
            lawCount = model.lawCount;
            peopleCount = model.peopleCount;
            carried = model.carried;
            flung = model.flung;
            wind = model.wind;
            day = model.day;
        }

        void addLaw(int bits) {
            if (lawCount < MOST) {
                torn[lawCount] = bits;
                lawCount++;
            }
        }

        void addOne(int where) {
            if (peopleCount < MOST) {
                street[peopleCount] = where;
                peopleCount++;
            }
        }

        boolean hasLaw(int law) {
            return law >= 0 && law < lawCount;
        }

        boolean hasOne(int one) {
            return one >= 0 && one < peopleCount;
        }

        boolean hasBit(int law, int bit) {
            return hasLaw(law) && bit >= 0 && bit < bitsOf(law);
        }

        boolean isCarried(int law) {
            return (carried >> law & 1) != 0;
        }

        boolean isFlung(int law) {
            return (flung >> law & 1) != 0;
        }

        int bitsOf(int law) {
            return law >= 0 && law < MOST ? torn[law] : 0;
        }

        int streetOf(int one) {
            return one >= 0 && one < MOST ? street[one] : 0;
        }

        int placeOf(int slot) {
            return slot >= 0 && slot < SLOTS ? place[slot] : AWAY;
        }

        void settle(int one, int where) {
            if (one >= 0 && one < MOST) {
                street[one] = where;
            }
        }

        void lay(int slot, int where) {
            if (slot >= 0 && slot < SLOTS) {
                place[slot] = where;
            }
        }

        boolean lies(int slot) {
            return placeOf(slot) < STREETS;
        }

        private boolean isHeld(int slot) {
            int where = placeOf(slot);
            return where >= HELD && where < AWAY;
        }

        int lyingCount() {
            int n = 0;
            for (int slot = 0; slot < SLOTS; slot++) {
                n += lies(slot) ? 1 : 0;
            }
            return n;
        }

        int heldCount() {
            int n = 0;
            for (int slot = 0; slot < SLOTS; slot++) {
                n += isHeld(slot) ? 1 : 0;
            }
            return n;
        }

        int bitsAt(int where) {
            int n = 0;
            for (int slot = 0; slot < SLOTS; slot++) {
                n += place[slot] == where ? 1 : 0;
            }
            return n;
        }

        int lyingOf(int law) {
            int set = 0;
            for (int b = 0; b < MOST_BITS; b++) {
                set |= lies(slotOf(law, b)) ? 1 << b : 0;
            }
            return set;
        }

        int heldOf(int law) {
            int n = 0;
            for (int b = 0; b < MOST_BITS; b++) {
                n += isHeld(slotOf(law, b)) ? 1 : 0;
            }
            return n;
        }

        int heldBy(int one) {
            return bitsAt(HELD + one);
        }

        int heldByOf(int one, int law) {
            int n = 0;
            for (int b = 0; b < MOST_BITS; b++) {
                n += placeOf(slotOf(law, b)) == HELD + one ? 1 : 0;
            }
            return n;
        }

        int holdersOf(int law) {
            int set = 0;
            for (int one = 0; one < peopleCount; one++) {
                set |= heldByOf(one, law) > 0 ? 1 << one : 0;
            }
            return set;
        }

        boolean hasRight(int one, int law) {
            return 2 * heldByOf(one, law) > bitsOf(law);
        }

        int rightHolder(int law) {
            for (int one = 0; one < peopleCount; one++) {
                if (hasRight(one, law)) {
                    return one;
                }
            }
            return NOBODY;
        }

        int rightsOf(int one) {
            int set = 0;
            for (int law = 0; law < lawCount; law++) {
                set |= hasRight(one, law) ? 1 << law : 0;
            }
            return set;
        }

        /** Two can't both have more than half, so a LAW gives one RIGHT at most. */
        int rightCount() {
            int n = 0;
            for (int law = 0; law < lawCount; law++) {
                n += rightHolder(law) == NOBODY ? 0 : 1;
            }
            return n;
        }

        int carry(int law) {
            if (!hasLaw(law)) {
                return NONE;
            }
            if (isCarried(law)) {
                return -2;
            }
            carried |= 1 << law;
            return Integer.bitCount(carried);
        }

        int fling(int law, int where) {
            if (!hasLaw(law) || !isWithin(where, 0, STREETS - 1)) {
                return NONE;
            }
            if (!isCarried(law)) {
                return -2;
            }
            if (isFlung(law)) {
                return -3;
            }
            scatter(law, where);
            return bitsOf(law);
        }

        /** What fling() does to a LAW that may be FLUNG, and aims() to one that need not be CARRIED for it. */
        void scatter(int law, int where) {
            flung |= 1 << law;
            layAll(law, where);
        }

        private void layAll(int law, int where) {
            for (int b = 0; b < bitsOf(law); b++) {
                lay(slotOf(law, b), where);
            }
        }

        int sweep(int law) {
            if (!hasLaw(law)) {
                return NONE;
            }
            if (!isFlung(law)) {
                return -2;
            }
            int held = heldOf(law);
            layAll(law, AWAY);
            flung &= ~(1 << law);
            carried &= ~(1 << law);
            return held;
        }

        int walk(int one, int where) {
            if (!hasOne(one) || !isWithin(where, 0, STREETS - 1)) {
                return NONE;
            }
            int way = Math.abs(where - streetOf(one));
            if (way == 0) {
                return -2;
            }
            settle(one, where);
            return way;
        }

        int give(int one, int taker, int law) {
            if (!hasOne(one) || !hasOne(taker) || one == taker || !hasLaw(law)) {
                return NONE;
            }
            int given = 0;
            for (int b = 0; b < MOST_BITS; b++) {
                int slot = slotOf(law, b);
                if (placeOf(slot) == HELD + one) {
                    lay(slot, HELD + taker);
                    given++;
                }
            }
            return given == 0 ? -2 : given;
        }

        int letFall(int one) {
            if (!hasOne(one)) {
                return NONE;
            }
            int fallen = 0;
            for (int slot = 0; slot < SLOTS; slot++) {
                if (placeOf(slot) == HELD + one) {
                    lay(slot, streetOf(one));
                    fallen++;
                }
            }
            return fallen == 0 ? -2 : fallen;
        }

        int turnWind(int v) {
            if (!isWithin(v, -GALE, GALE)) {
                return NONE;
            }
            if (v == wind) {
                return -2;
            }
            int old = wind;
            wind = v;
            return 10 + old;
        }

        /** One picks up the first BIT in his STREET: how many that were. */
        int pickUp(int one) {
            int where = streetOf(one);
            for (int slot = 0; slot < SLOTS; slot++) {
                if (placeOf(slot) == where) {
                    lay(slot, HELD + one);
                    return 1;
                }
            }
            return 0;
        }
    }

    /** How DAYS go by. */
    private static final class Weather {
        private final int[] crowd = new int[STREETS];
        private final int[] landing = new int[SLOTS];
        private int drawn;

        /** How many BITS were picked up. */
        int passDays(Town town, Rule rule, int n) {
            int picked = 0;
            for (int d = 0; d < n; d++) {
                blow(town, rule);
                for (int one = 0; one < town.peopleCount; one++) {
                    picked += town.pickUp(one);
                }
                town.day++;
            }
            return picked;
        }

        int passYears(Town town, Rule rule, int seed, int n) {
            drawn = seed;
            int picked = 0;
            for (int turn = 0; turn < n; turn++) {
                int lot = draw(4);
                if (lot < 2) {
                    picked += passDays(town, rule, 1);
                } else if (lot == 2) {
                    town.wind = draw(WINDS) - GALE;
                } else if (town.peopleCount > 0) {
                    int one = draw(town.peopleCount);
                    town.settle(one, draw(STREETS));
                }
            }
            return picked;
        }

        /** How full each STREET is now: landingOf() reads it, so it is to be counted ahead of any BIT's move. */
        void countCrowd(Town town) {
            for (int street = 0; street < STREETS; street++) {
                crowd[street] = 0;
            }
            for (int slot = 0; slot < SLOTS; slot++) {
                int street = town.placeOf(slot);
                if (street >= 0 && street < STREETS) {
                    crowd[street]++;
                }
            }
        }

        /** The STREET in which a BIT that lies would lie behind (1) of the next DAY by a wind. */
        int landingOf(Town town, Rule rule, int slot, int wind) {
            int street = town.placeOf(slot);
            int others = street >= 0 && street < STREETS ? crowd[street] - 1 : 0;
            rule.learn(town, slot, wind, others);
            return clamp(street + rule.drift(), 0, STREETS - 1);
        }

        private void blow(Town town, Rule rule) {
            countCrowd(town);
            for (int slot = 0; slot < SLOTS; slot++) {
                landing[slot] = town.lies(slot) ? landingOf(town, rule, slot, town.wind) : town.placeOf(slot);
            }
            for (int slot = 0; slot < SLOTS; slot++) {
                town.lay(slot, landing[slot]);
            }
        }

        private int draw(int n) {
            drawn = drawn * 1103515245 + 12345;
            return n > 0 ? (drawn >>> 16) % n : 0;
        }
    }

    /** What undo() and again() bring back. */
    private static final class Past {
        private static final int DEEDS = 15;
        private static final int STORES = 3;

        private final Town[] deeds = new Town[DEEDS];
        private final Town[] stores = new Town[STORES];
        private int first;
        private int size;
        private int stored;

        Past() {
            for (int i = 0; i < DEEDS; i++) {
                deeds[i] = new Town();
            }
            for (int i = 0; i < STORES; i++) {
                stores[i] = new Town();
            }
        }

        int size() {
            return size;
        }

        void push(Town town) {
            if (size == DEEDS) {
                first = (first + 1) % DEEDS;
                size--;
            }
            Town kept = deedAt(size);
            if (kept != null) {
                kept.become(town);
                size++;
            }
        }

        int pop(Town town) {
            if (size == 0) {
                return NONE;
            }
            size--;
            Town kept = deedAt(size);
            if (kept != null) {
                town.become(kept);
            }
            return size;
        }

        /** How it was ahead of a deed, by its place behind the first that is kept. */
        private Town deedAt(int place) {
            int i = (first + place) % DEEDS;
            return i >= 0 ? deeds[i] : null;
        }

        boolean store(int i, Town town) {
            if (!isWithin(i, 0, STORES - 1) || stores[i] == null) {
                return false;
            }
            stores[i].become(town);
            stored |= 1 << i;
            return true;
        }

        boolean bringBack(int i, Town town) {
            if (!isWithin(i, 0, STORES - 1) || (stored >> i & 1) == 0 || stores[i] == null) {
                return false;
            }
            town.become(stores[i]);
            size = 0;
            return true;
        }

        /** LAWS or PEOPLE came: no earlier time knows of them. */
        void forgetAll() {
            size = 0;
            stored = 0;
        }
    }

    /** Sets of PEOPLE, by the BITS that they HOLD. */
    private static final class Shares {
        private static final int SETS = 32;

        private final int[] holders = new int[MOST];
        private final int[] votes = new int[MOST];
        private final int[] best = new int[(MOST + 1) * SETS];
        private int allVotes;

        int lawsHeld(Town town) {
            int n = 0;
            for (int law = 0; law < town.lawCount; law++) {
                n += town.heldOf(law) > 0 ? 1 : 0;
            }
            return n;
        }

        /** The fewest PEOPLE who HOLD something of each LAW that is HELD in part. */
        int hittingSet(Town town) {
            for (int law = 0; law < MOST; law++) {
                holders[law] = town.holdersOf(law);
            }
            int sets = 1 << town.peopleCount;
            int fewest = sets - 1;
            for (int set = sets - 1; set >= 0; set--) {
                if (hitsAll(set) && Integer.bitCount(set) <= Integer.bitCount(fewest)) {
                    fewest = set;
                }
            }
            return fewest;
        }

        private boolean hitsAll(int set) {
            for (int law = 0; law < MOST; law++) {
                if (holders[law] != 0 && (holders[law] & set) == 0) {
                    return false;
                }
            }
            return true;
        }

        /** The most BITS by awards of all LAWS; best has, for LAWS from one on and PEOPLE taken, the most. */
        int weighAwards(Town town) {
            for (int law = MOST; law >= 0; law--) {
                for (int set = 0; set < SETS; set++) {
                    int most = 0;
                    for (int one = -1; law < town.lawCount && one < town.peopleCount; one++) {
                        most = Math.max(most, worth(town, law, set, one));
                    }
                    best[law * SETS + set] = most;
                }
            }
            return best[0];
        }

        void tellAwards(Town town, Row told) {
            int taken = 0;
            told.clear();
            for (int law = 0; law < town.lawCount; law++) {
                int who = -1;
                while (who < town.peopleCount && worth(town, law, taken, who) < bestOf(law, taken)) {
                    who++;
                }
                told.add(who);
                taken |= who >= 0 && who < town.peopleCount ? 1 << who : 0;
            }
        }

        /** What an award of a LAW to one (-1: nobody) is worth with all behind it, or -1 if he is taken. */
        private int worth(Town town, int law, int taken, int one) {
            if (one < 0) {
                return bestOf(law + 1, taken);
            }
            if ((taken >> one & 1) != 0) {
                return -1;
            }
            return town.heldByOf(one, law) + bestOf(law + 1, taken | 1 << one);
        }

        private int bestOf(int law, int taken) {
            boolean known = isWithin(law, 0, MOST) && isWithin(taken, 0, SETS - 1);
            return known ? best[law * SETS + taken] : 0;
        }

        /** Who HOLDS the most, of like ones the first, but for those placed. */
        int richest(Town town, int placed) {
            int first = 0;
            int most = -1;
            for (int one = 0; one < town.peopleCount; one++) {
                if ((placed >> one & 1) == 0 && town.heldBy(one) > most) {
                    most = town.heldBy(one);
                    first = one;
                }
            }
            return first;
        }

        void weigh(Town town) {
            for (int one = 0; one < MOST; one++) {
                votes[one] = town.heldBy(one);
            }
            allVotes = town.heldCount();
        }

        int swings(Town town, int one) {
            weigh(town);
            int n = 0;
            for (int set = 0; set < 1 << town.peopleCount; set++) {
                if ((set >> one & 1) != 0 && prevails(set) && !prevails(set & ~(1 << one))) {
                    n++;
                }
            }
            return n;
        }

        boolean isLeast(int set) {
            if (!prevails(set)) {
                return false;
            }
            for (int one = 0; one < MOST; one++) {
                if ((set >> one & 1) != 0 && prevails(set & ~(1 << one))) {
                    return false;
                }
            }
            return true;
        }

        private boolean prevails(int set) {
            int sum = 0;
            for (int one = 0; one < MOST; one++) {
                sum += (set >> one & 1) != 0 ? votes[one] : 0;
            }
            return 2 * sum > allVotes;
        }
    }

    /** Things that were told, each as three numbers, as many as there is room for. */
    private static final class Ledger {
        private static final int NUMBERS = 3;
        private static final int MOST_ROOM = 12;

        private final int[] numbers = new int[NUMBERS * MOST_ROOM];
        private final int room;
        private int size;

        Ledger(int room) {
            this.room = Math.min(room, MOST_ROOM);
        }

        int size() {
            return size;
        }

        /** How many there are then, or NONE if there is no room. */
        int add(int first, int second, int third) {
            if (size >= room) {
                return NONE;
            }
            int from = NUMBERS * size;
            numbers[from] = first;
            numbers[from + 1] = second;
            numbers[from + 2] = third;
            size++;
            return size;
        }

        int at(int entry, int which) {
            int i = NUMBERS * entry + which;
            return i >= 0 && i < NUMBERS * MOST_ROOM ? numbers[i] : 0;
        }

        boolean isFull() {
            return size >= room;
        }

        /** How many there were. */
        int empty() {
            int n = size;
            size = 0;
            return n;
        }
    }

    /** Where BITS would lie (LAW, BIT, STREET), and by which WINDS. */
    private static final class Sights {
        private final Ledger ledger = new Ledger(10);
        private final int[] tally = new int[STREETS];

        int windsLeft(Town town, Rule rule, Weather weather) {
            weather.countCrowd(town);
            int winds = 0;
            for (int v = -GALE; v <= GALE; v++) {
                winds |= suits(town, rule, weather, v) ? 1 << v + GALE : 0;
            }
            return winds;
        }

        private boolean suits(Town town, Rule rule, Weather weather, int wind) {
            for (int i = 0; i < ledger.size(); i++) {
                int slot = slotOf(ledger.at(i, 0), ledger.at(i, 1));
                if (!town.lies(slot) || weather.landingOf(town, rule, slot, wind) != ledger.at(i, 2)) {
                    return false;
                }
            }
            return true;
        }

        /** How many of the WINDS are left at most, when a BIT has been looked at. */
        int mostLeft(Town town, Rule rule, Weather weather, int winds, int slot) {
            weather.countCrowd(town);
            for (int street = 0; street < STREETS; street++) {
                tally[street] = 0;
            }
            int most = 0;
            for (int v = -GALE; v <= GALE; v++) {
                if ((winds >> v + GALE & 1) != 0) {
                    int street = weather.landingOf(town, rule, slot, v);
                    if (street >= 0 && street < STREETS) {
                        tally[street]++;
                        most = Math.max(most, tally[street]);
                    }
                }
            }
            return most;
        }
    }

    /** What was heard of one of PEOPLE (what, v). */
    private static final class Hearsay {
        private final Ledger ledger = new Ledger(12);

        static boolean isTalk(int what, int v) {
            switch (what) {
                case 0:
                    return isWithin(v, 0, STREETS - 1);
                case 1:
                    return isWithin(v, 0, 9);
                case 2:
                case 3:
                    return isWithin(v, 0, MOST - 1);
                default:
                    return false;
            }
        }

        int peopleLeft(Town town) {
            int set = 0;
            for (int one = 0; one < town.peopleCount; one++) {
                set |= suits(town, one) ? 1 << one : 0;
            }
            return set;
        }

        private boolean suits(Town town, int one) {
            for (int i = 0; i < ledger.size(); i++) {
                if (!isSo(town, one, ledger.at(i, 0), ledger.at(i, 1))) {
                    return false;
                }
            }
            return true;
        }

        private static boolean isSo(Town town, int one, int what, int v) {
            switch (what) {
                case 0:
                    return town.streetOf(one) == v;
                case 1:
                    return town.heldBy(one) >= v;
                case 2:
                    return town.heldByOf(one, v) > 0;
                default:
                    return town.hasRight(one, v);
            }
        }

        /** How many of a set are left at most, when it has been asked. */
        static int mostLeft(Town town, int set, int what, int v) {
            int so = 0;
            int all = 0;
            for (int one = 0; one < town.peopleCount; one++) {
                if ((set >> one & 1) != 0) {
                    all++;
                    so += isSo(town, one, what, v) ? 1 : 0;
                }
            }
            return Math.max(so, all - so);
        }
    }

    /** How far BITS went (WIND, BIT, STREETS), and laws of scattering, by their numbers: 5 times a, and b and 2. */
    private static final class Flights {
        private static final int LAWS = 20;

        private final Ledger ledger = new Ledger(10);

        static int timesWind(int law) {
            return law / 5;
        }

        static int timesNumber(int law) {
            return law % 5 - 2;
        }

        static int firstOf(int set) {
            int law = 0;
            while (law < LAWS && (set >> law & 1) == 0) {
                law++;
            }
            return law;
        }

        private static int wayBy(int law, int w, int i) {
            return timesWind(law) * w + timesNumber(law) * i;
        }

        int lawsLeft() {
            int set = 0;
            for (int law = 0; law < LAWS; law++) {
                set |= suits(law) ? 1 << law : 0;
            }
            return set;
        }

        private boolean suits(int law) {
            for (int i = 0; i < ledger.size(); i++) {
                if (wayBy(law, ledger.at(i, 0), ledger.at(i, 1)) != ledger.at(i, 2)) {
                    return false;
                }
            }
            return true;
        }

        /** How many laws of a set are left at most, when a BIT has been flung by a wind. */
        static int mostLeft(int set, int w, int i) {
            int most = 0;
            for (int law = 0; law < LAWS; law++) {
                int like = 0;
                for (int another = 0; another < LAWS; another++) {
                    boolean left = (set >> law & 1) != 0 && (set >> another & 1) != 0;
                    like += left && wayBy(law, w, i) == wayBy(another, w, i) ? 1 : 0;
                }
                most = Math.max(most, like);
            }
            return most;
        }
    }
}
