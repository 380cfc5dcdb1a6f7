import java.util.Random;

/** Runs of 512 calls drawn by fixed seeds, on the class and on the Oracle: all answers, and all that can be asked. */
public final class RandomRunsTest {
    private static final int RUNS = 1500;
    private static final int CALLS = 512;
    private static final Check CHECK = new Check("RandomRunsTest");
    private static final String[] NAMES = {"laws", "people", "rule", "law", "bit", "one", "sheet", "carries", "flings",
        "sweeps", "days", "walks", "gives", "falls", "wind", "wedding", "undo", "later", "when", "clean", "drifts", "aims",
        "prays", "seeks", "whole", "quorum", "awards", "needs", "line", "power", "least", "seen", "forget", "guess",
        "looks", "heard", "denies", "fits", "asks", "odds", "went", "clears", "scatters", "tries", "handfuls", "other",
        "grasps", "years", "keep", "again", "count", "row", "sign", "end"};

    private static final String[] OFTEN = {"carries", "carries", "flings", "flings", "flings", "walks", "walks", "days",
        "gives", "falls", "wind", "seen", "seen", "sweeps"};
    private static final String SELDOM = ",laws,people,sheet,forget,denies,clears,again,undo,";
    private static final String[] RULES = {"", "w", "w+i", "w*l", "w-k", "w*(i=1)", "w/2", "-w+l", "w*(n=2)", "0", "s-3+w"};

    private final Random random;
    private final boolean greedy;
    private final ConfettiMinutes x = new ConfettiMinutes();
    private final Oracle y = new Oracle();
    private String last = "";
    private int a;
    private int b;
    private int c;
    private int d;

    private RandomRunsTest(long seed) {
        random = new Random(seed);
        greedy = random.nextBoolean();
    }

    public static void main(String[] args) {
        for (int run = 0; run < RUNS; run++) {
            if (!new RandomRunsTest(run).isAsDue(run)) {
                break;
            }
        }
        CHECK.end();
    }

    private boolean isAsDue(int run) {
        for (int n = 0; n < CALLS; n++) {
            String name = n < 2 ? NAMES[n] : drawName();
            draw(name);
            long got = answer(() -> ofClass(name));
            long due = answer(() -> ofOracle(name));
            last = "run " + run + ", call " + n + ": " + name + "(" + a + ", " + b + ", " + c + ", " + d + ")";
            CHECK.due(last, got, due);
            if (got != due || !isAllAlike()) {
                return false;
            }
        }
        return true;
    }

    /** What brings BITS into hands comes oftener than its share, what empties the town or its lists seldom. */
    private String drawName() {
        String name = random.nextInt(3) == 0 ? OFTEN[random.nextInt(OFTEN.length)] : NAMES[random.nextInt(NAMES.length)];
        boolean seldom = (greedy ? SELDOM + "sweeps,falls," : SELDOM).contains("," + name + ",");
        return seldom && random.nextInt(4) > 0 ? "days" : name;
    }

    private boolean isAllAlike() {
        boolean alike = true;
        for (int what = 0; what <= 13; what++) {
            int w = what;
            alike &= same("count(" + what + ")", answer(() -> x.count(w)), answer(() -> y.count(w)));
        }
        for (int i = 0; i < y.count(12); i++) {
            int j = i;
            alike &= same("row(" + i + ")", answer(() -> x.row(j)), answer(() -> y.row(j)));
        }
        for (int law = 0; law < y.count(0); law++) {
            for (int bit = 0; bit < y.law(law, 0); bit++) {
                int l = law;
                int i = bit;
                alike &= same("bit(" + law + ", " + bit + ")", answer(() -> x.bit(l, i)), answer(() -> y.bit(l, i)));
            }
        }
        for (int one = 0; one < y.count(1); one++) {
            int o = one;
            alike &= same("one(" + one + ", 0)", answer(() -> x.one(o, 0)), answer(() -> y.one(o, 0)));
        }
        return alike;
    }

    private boolean same(String call, long got, long due) {
        if (got != due) {
            CHECK.due(last + ", then " + call, got, due);
        }
        return got == due;
    }

    private static long answer(Check.Call call) {
        try {
            return call.answer();
        } catch (java.util.NoSuchElementException e) {
            return Long.MIN_VALUE;
        }
    }

    // ---- what is drawn

    private int oneOf(int most) {
        int lot = random.nextInt(20);
        if (lot == 0) {
            return -1;
        }
        if (lot == 1) {
            return most + 1;
        }
        if (lot == 2 && random.nextInt(8) == 0) {
            return random.nextInt();
        }
        return random.nextInt(most + 1);
    }

    private int law() {
        return oneOf(Math.max(0, y.count(0) - 1));
    }

    private int one() {
        return oneOf(Math.max(0, y.count(1) - 1));
    }

    private void draw(String name) {
        a = law();
        b = oneOf(7);
        c = oneOf(7);
        d = 0;
        switch (name) {
            case "laws" -> write(lines("1234", y.count(0)));
            case "people" -> write(lines("01234567", y.count(1)));
            case "rule" -> write(ruleText());
            case "other" -> write(ruleText());
            case "wedding" -> write(wedding());
            case "law" -> b = oneOf(5);
            case "bit" -> b = oneOf(3);
            case "one" -> set(one(), oneOf(2), 0);
            case "sheet" -> {
                a = oneOf(3);
                b = oneOf(5);
                c = random.nextInt(3) == 0 ? random.nextInt() : random.nextInt(600) - 300;
                d = random.nextInt(3) == 0 ? random.nextInt() : random.nextInt(9) - 4;
            }
            case "days" -> a = random.nextInt(6) > 0 ? 1 : random.nextInt(3) > 0 ? random.nextInt(4) : oneOf(60);
            case "walks" -> set(one(), random.nextBoolean() ? nearBit() : oneOf(7), 0);
            case "gives" -> set(one(), one(), law());
            case "falls", "power" -> a = one();
            case "wind" -> a = oneOf(6) - 3;
            case "later" -> set(law(), oneOf(3), oneOf(60));
            case "when", "needs" -> set(one(), law(), 0);
            case "drifts" -> a = oneOf(60);
            case "aims" -> set(law(), one(), oneOf(30));
            case "prays", "seeks" -> set(one(), oneOf(random.nextBoolean() ? 4 : 30), 0);
            case "seen" -> set(law(), random.nextInt(4) > 0 ? 0 : oneOf(3), random.nextBoolean() ? nearBit() : oneOf(7));
            case "heard" -> set(oneOf(3), oneOf(random.nextBoolean() ? 2 : 9), 0);
            case "odds" -> set(one(), law(), oneOf(10));
            case "went" -> drawFlight();
            case "handfuls" -> a = oneOf(60);
            case "grasps" -> a = oneOf(18);
            case "years" -> set(random.nextInt(), oneOf(60), 0);
            case "keep", "again" -> a = oneOf(2);
            case "count" -> a = oneOf(13);
            case "row" -> a = oneOf(4);
            case "sign" -> a = random.nextInt();
            case "end" -> a = oneOf(8);
            default -> {
            }
        }
    }

    private void set(int first, int second, int third) {
        a = first;
        b = second;
        c = third;
    }

    /** A STREET where a BIT may be soon, so that hands find BITS and what was seen fits a wind. */
    private int nearBit() {
        int law = random.nextInt(Math.max(1, y.count(0)));
        int where = law < y.count(0) ? y.bit(law, 0) : 0;
        return where > 7 ? random.nextInt(8) : Math.max(0, Math.min(7, where + y.count(2) - 10));
    }

    /** By a law of scattering mostly, so that several such stay alike. */
    private void drawFlight() {
        set(oneOf(6) - 3, oneOf(3), 0);
        c = random.nextInt(4) == 0 ? random.nextInt(44) - 22 : 2 * Math.max(-3, Math.min(3, a)) - Math.max(0, Math.min(3, b));
    }

    private void write(String text) {
        Check.text(x, text);
        y.end(0);
        for (int p = 0; p < text.length(); p += 4) {
            int v = 0;
            for (int j = p; j < p + 4; j++) {
                v = v << 8 | (j < text.length() ? text.charAt(j) : 0);
            }
            y.sign(v);
        }
        y.end(text.length());
    }

    private String lines(String digits, int there) {
        StringBuilder s = new StringBuilder();
        int n = there == 0 ? 1 + random.nextInt(5) : random.nextInt(3);
        for (int i = 0; i < n; i++) {
            s.append(i > 0 ? ";" : "").append(digits.charAt(random.nextInt(digits.length())));
        }
        return there == 0 && random.nextInt(4) > 0 ? s.toString() : spoilt(s, digits + ";;;089x");
    }

    private String ruleText() {
        StringBuilder s = new StringBuilder();
        if (random.nextBoolean()) {
            return RULES[random.nextInt(RULES.length)];
        }
        expression(s, 0);
        if (random.nextInt(3) > 0) {
            s.setLength(Math.min(s.length(), 80));
            return s.toString();
        }
        return spoilt(s, "wilmskn0123456789<>=+-*/()");
    }

    private void expression(StringBuilder s, int depth) {
        sum(s, depth);
        if (random.nextInt(4) == 0) {
            s.append("<>=".charAt(random.nextInt(3)));
            sum(s, depth);
        }
    }

    private void sum(StringBuilder s, int depth) {
        thing(s, depth);
        while (random.nextInt(5) < 2) {
            s.append("+-*/*-".charAt(random.nextInt(6)));
            thing(s, depth);
        }
    }

    private void thing(StringBuilder s, int depth) {
        while (random.nextInt(5) == 0) {
            s.append('-');
        }
        int lot = random.nextInt(7);
        if (lot < 4) {
            s.append("wilmskn".charAt(random.nextInt(7)));
        } else if (lot < 6 || depth > 4) {
            s.append(random.nextInt(4) == 0 ? random.nextInt(1000) : random.nextInt(9));
        } else {
            s.append('(');
            expression(s, depth + 1);
            s.append(')');
        }
    }

    private String wedding() {
        StringBuilder s = new StringBuilder();
        int n = random.nextInt(12) == 0 ? 30 : random.nextInt(6);
        for (int i = 0; i < n; i++) {
            int law = random.nextInt(Math.max(1, y.count(0)));
            int one = random.nextInt(Math.max(1, y.count(1)));
            switch (random.nextInt(8)) {
                case 0 -> s.append('n').append(random.nextInt(4));
                case 1 -> s.append('c').append(law);
                case 2 -> s.append('t').append(law).append(random.nextInt(8));
                case 3 -> s.append('s').append(law);
                case 4 -> s.append('p').append(one).append(random.nextInt(8));
                case 5 -> s.append('g').append(one).append(random.nextInt(5)).append(law);
                case 6 -> s.append('l').append(one);
                default -> s.append('w').append(random.nextBoolean() ? '+' : '-').append(random.nextInt(4));
            }
        }
        s.setLength(Math.min(s.length(), 80));
        return random.nextInt(3) > 0 ? s.toString() : spoilt(s, "nctspglw+-0123456789");
    }

    private String spoilt(StringBuilder s, String signs) {
        for (int n = random.nextInt(3); n > 0; n--) {
            int p = random.nextInt(s.length() + 1);
            char sign = random.nextInt(20) == 0 ? (char) random.nextInt(256) : signs.charAt(random.nextInt(signs.length()));
            switch (random.nextInt(3)) {
                case 0 -> s.insert(p, sign);
                case 1 -> s.setLength(p);
                default -> {
                    if (p < s.length()) {
                        s.setCharAt(p, sign);
                    }
                }
            }
        }
        s.setLength(Math.min(s.length(), 80));
        return s.toString();
    }

    // ---- the calls

    private long ofClass(String name) {
        return switch (name) {
            case "sign" -> x.sign(a);
            case "end" -> x.end(a) ? 1 : 0;
            case "laws" -> x.laws();
            case "people" -> x.people();
            case "rule" -> x.rule();
            case "law" -> x.law(a, b);
            case "bit" -> x.bit(a, b);
            case "one" -> x.one(a, b);
            case "sheet" -> x.sheet(a, b, c, d);
            case "carries" -> x.carries(a);
            case "flings" -> x.flings(a, b);
            case "sweeps" -> x.sweeps(a);
            case "days" -> x.days(a);
            case "walks" -> x.walks(a, b);
            case "gives" -> x.gives(a, b, c);
            case "falls" -> x.falls(a);
            case "wind" -> x.wind(a);
            case "wedding" -> x.wedding();
            case "undo" -> x.undo();
            case "later" -> x.later(a, b, c);
            case "when" -> x.when(a, b);
            case "clean" -> x.clean();
            case "drifts" -> x.drifts(a);
            case "aims" -> x.aims(a, b, c);
            case "prays" -> x.prays(a, b);
            case "seeks" -> x.seeks(a, b);
            case "whole" -> x.whole(a);
            case "quorum" -> x.quorum();
            case "awards" -> x.awards();
            case "needs" -> x.needs(a, b);
            case "line" -> x.line();
            case "power" -> x.power(a);
            case "least" -> x.least();
            case "seen" -> x.seen(a, b, c);
            case "forget" -> x.forget();
            case "guess" -> x.guess();
            case "looks" -> x.looks();
            case "heard" -> x.heard(a, b);
            case "denies" -> x.denies();
            case "fits" -> x.fits();
            case "asks" -> x.asks();
            case "odds" -> x.odds(a, b, c);
            case "went" -> x.went(a, b, c);
            case "clears" -> x.clears();
            case "scatters" -> x.scatters();
            case "tries" -> x.tries();
            case "handfuls" -> x.handfuls(a);
            case "other" -> x.other();
            case "grasps" -> x.grasps(a);
            case "years" -> x.years(a, b);
            case "keep" -> x.keep(a) ? 1 : 0;
            case "again" -> x.again(a) ? 1 : 0;
            case "count" -> x.count(a);
            default -> x.row(a);
        };
    }

    private long ofOracle(String name) {
        return switch (name) {
            case "sign" -> y.sign(a);
            case "end" -> y.end(a) ? 1 : 0;
            case "laws" -> y.laws();
            case "people" -> y.people();
            case "rule" -> y.rule();
            case "law" -> y.law(a, b);
            case "bit" -> y.bit(a, b);
            case "one" -> y.one(a, b);
            case "sheet" -> y.sheet(a, b, c, d);
            case "carries" -> y.carries(a);
            case "flings" -> y.flings(a, b);
            case "sweeps" -> y.sweeps(a);
            case "days" -> y.days(a);
            case "walks" -> y.walks(a, b);
            case "gives" -> y.gives(a, b, c);
            case "falls" -> y.falls(a);
            case "wind" -> y.wind(a);
            case "wedding" -> y.wedding();
            case "undo" -> y.undo();
            case "later" -> y.later(a, b, c);
            case "when" -> y.when(a, b);
            case "clean" -> y.clean();
            case "drifts" -> y.drifts(a);
            case "aims" -> y.aims(a, b, c);
            case "prays" -> y.prays(a, b);
            case "seeks" -> y.seeks(a, b);
            case "whole" -> y.whole(a);
            case "quorum" -> y.quorum();
            case "awards" -> y.awards();
            case "needs" -> y.needs(a, b);
            case "line" -> y.line();
            case "power" -> y.power(a);
            case "least" -> y.least();
            case "seen" -> y.seen(a, b, c);
            case "forget" -> y.forget();
            case "guess" -> y.guess();
            case "looks" -> y.looks();
            case "heard" -> y.heard(a, b);
            case "denies" -> y.denies();
            case "fits" -> y.fits();
            case "asks" -> y.asks();
            case "odds" -> y.odds(a, b, c);
            case "went" -> y.went(a, b, c);
            case "clears" -> y.clears();
            case "scatters" -> y.scatters();
            case "tries" -> y.tries();
            case "handfuls" -> y.handfuls(a);
            case "other" -> y.other();
            case "grasps" -> y.grasps(a);
            case "years" -> y.years(a, b);
            case "keep" -> y.keep(a) ? 1 : 0;
            case "again" -> y.again(a) ? 1 : 0;
            case "count" -> y.count(a);
            default -> y.row(a);
        };
    }
}
