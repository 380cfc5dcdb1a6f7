import java.math.BigInteger;
import java.util.ArrayDeque;
import java.util.ArrayList;
import java.util.Arrays;
import java.util.Deque;
import java.util.List;
import java.util.NoSuchElementException;
import java.util.TreeMap;
import java.util.function.IntPredicate;

/**
 * The document once more, as slow and plain as can be: texts by patterns, rules read anew for each BIT, sets tried one
 * by one. RandomRunsTest holds the class against it.
 */
final class Oracle {
    private static final String[] WEDDING_ENDS = {"", "0", "00", "000", "+0"};
    private static final String WEDDING = "(n\\d|c\\d|t\\d[0-7]|s\\d|p\\d[0-7]|g\\d\\d\\d|l\\d|w[+-][0-3])*";

    private static final class State {
        List<int[]> bits = new ArrayList<>();
        List<Boolean> carried = new ArrayList<>();
        List<Boolean> flung = new ArrayList<>();
        List<Integer> streets = new ArrayList<>();
        int wind = 1;
        int day;

        State copy() {
            State s = new State();
            for (int[] b : bits) {
                s.bits.add(b.clone());
            }
            s.carried.addAll(carried);
            s.flung.addAll(flung);
            s.streets.addAll(streets);
            s.wind = wind;
            s.day = day;
            return s;
        }
    }

    private State now = new State();
    private String text = "";
    private String rule = "";
    private List<Long> row = new ArrayList<>();
    private final Deque<State> deeds = new ArrayDeque<>();
    private final State[] kept = new State[3];
    private final List<int[]> sights = new ArrayList<>();
    private final List<int[]> talk = new ArrayList<>();
    private final List<int[]> flights = new ArrayList<>();

    // ---- texts

    int sign(int v) {
        if (text.length() + 4 > 80) {
            return -1;
        }
        for (byte b : java.nio.ByteBuffer.allocate(4).putInt(v).array()) {
            text += (char) (b & 0xFF);
        }
        return text.length();
    }

    boolean end(int n) {
        if (n < 0 || n > text.length()) {
            return false;
        }
        text = text.substring(0, n);
        return true;
    }

    private String read() {
        String t = text;
        text = "";
        return t;
    }

    /** The first p so that the signs up to p can't stand; the end, if they can but are no whole; -1 if all is fine. */
    private static int fault(String t, int most, java.util.function.Predicate<String> begins,
        java.util.function.Predicate<String> whole) {
        String head = t.length() > most ? t.substring(0, most) : t;
        for (int p = 0; p < head.length(); p++) {
            if (!begins.test(head.substring(0, p + 1))) {
                return p;
            }
        }
        if (t.length() > most) {
            return most;
        }
        return whole.test(t) ? -1 : t.length();
    }

    private static int lineFault(String t, String digit, int room) {
        return fault(t, 9, s -> (s.length() + 1) / 2 <= room && (s.matches(digit + "(;" + digit + ")*")
            || s.matches("(" + digit + ";)+")), s -> s.matches(digit + "(;" + digit + ")*"));
    }

    int laws() {
        String t = read();
        if (t.isEmpty()) {
            return 0;
        }
        int p = lineFault(t, "[1-4]", 5 - now.bits.size());
        if (p >= 0) {
            return -1 - p;
        }
        String[] lines = t.split(";");
        for (String line : lines) {
            int[] bits = new int[Integer.parseInt(line)];
            Arrays.fill(bits, 20);
            now.bits.add(bits);
            now.carried.add(false);
            now.flung.add(false);
        }
        came();
        return lines.length;
    }

    int people() {
        String t = read();
        if (t.isEmpty()) {
            return 0;
        }
        int p = lineFault(t, "[0-7]", 5 - now.streets.size());
        if (p >= 0) {
            return -1 - p;
        }
        String[] lines = t.split(";");
        for (String line : lines) {
            now.streets.add(Integer.parseInt(line));
        }
        came();
        return lines.length;
    }

    private void came() {
        deeds.clear();
        Arrays.fill(kept, null);
    }

    // ---- the rule, by descent

    private static final class Reader {
        final String s;
        final int[] names;
        int p;
        int depth;

        Reader(String s, int[] names) {
            this.s = s;
            this.names = names;
        }

        private boolean sees(String signs) {
            return p < s.length() && signs.indexOf(s.charAt(p)) >= 0;
        }

        int expression() {
            int a = sum();
            if (sees("<>=")) {
                char c = s.charAt(p++);
                int b = sum();
                boolean so = c == '<' ? a < b : c == '>' ? a > b : a == b;
                return so ? 1 : 0;
            }
            return a;
        }

        private int sum() {
            int a = product();
            while (sees("+-")) {
                char c = s.charAt(p++);
                int b = product();
                a = c == '+' ? a + b : a - b;
            }
            return a;
        }

        private int product() {
            int a = negated();
            while (sees("*/")) {
                char c = s.charAt(p++);
                int b = negated();
                a = c == '*' ? a * b : b == 0 ? 0 : (int) ((long) a / b);
            }
            return a;
        }

        private int negated() {
            if (sees("-")) {
                p++;
                return -negated();
            }
            return thing();
        }

        private int thing() {
            if (sees("(")) {
                p++;
                if (++depth > 4) {
                    throw new IllegalArgumentException();
                }
                int a = expression();
                if (!sees(")")) {
                    throw new IllegalArgumentException();
                }
                p++;
                depth--;
                return a;
            }
            if (sees("wilmskn")) {
                return names["wilmskn".indexOf(s.charAt(p++))];
            }
            int first = p;
            while (sees("0123456789") && p - first < 3) {
                p++;
            }
            if (p == first) {
                throw new IllegalArgumentException();
            }
            return Integer.parseInt(s.substring(first, p));
        }
    }

    private static boolean isRule(String s) {
        Reader r = new Reader(s, new int[7]);
        try {
            r.expression();
        } catch (IllegalArgumentException e) {
            return false;
        }
        return r.p == s.length();
    }

    /** What begins a rule can be made one by a thing and as many ) as are open. */
    private static boolean beginsRule(String s) {
        String closing = "";
        for (int n = 0; n <= 4; n++) {
            if (isRule(s + closing) || isRule(s + "1" + closing)) {
                return true;
            }
            closing += ")";
        }
        return false;
    }

    private static int ruleFault(String t) {
        return t.isEmpty() ? -1 : fault(t, 40, Oracle::beginsRule, Oracle::isRule);
    }

    int rule() {
        String t = read();
        int p = ruleFault(t);
        if (p >= 0) {
            return -1 - p;
        }
        rule = t;
        return 0;
    }

    // ---- what is

    private static boolean in(int v, int a, int b) {
        return a <= v && v <= b;
    }

    private boolean isLaw(int law) {
        return in(law, 0, now.bits.size() - 1);
    }

    private boolean isOne(int one) {
        return in(one, 0, now.streets.size() - 1);
    }

    private boolean isBit(int law, int bit) {
        return isLaw(law) && in(bit, 0, now.bits.get(law).length - 1);
    }

    private static int total(State s, IntPredicate place) {
        int n = 0;
        for (int[] bits : s.bits) {
            n += (int) Arrays.stream(bits).filter(place).count();
        }
        return n;
    }

    private static int lying(State s) {
        return total(s, p -> p < 8);
    }

    private static int held(State s) {
        return total(s, p -> p >= 10 && p < 20);
    }

    private static int holds(State s, int one) {
        return total(s, p -> p == 10 + one);
    }

    private static int holds(State s, int one, int law) {
        return law >= s.bits.size() ? 0 : (int) Arrays.stream(s.bits.get(law)).filter(p -> p == 10 + one).count();
    }

    private static boolean right(State s, int one, int law) {
        return law < s.bits.size() && holds(s, one, law) > s.bits.get(law).length / 2.0;
    }

    private static int rights(State s) {
        int n = 0;
        for (int law = 0; law < s.bits.size(); law++) {
            for (int one = 0; one < s.streets.size(); one++) {
                n += right(s, one, law) ? 1 : 0;
            }
        }
        return n;
    }

    int law(int law, int what) {
        if (!isLaw(law) || !in(what, 0, 5)) {
            throw new NoSuchElementException();
        }
        int[] bits = now.bits.get(law);
        int lie = 0;
        int held = 0;
        for (int b = 0; b < bits.length; b++) {
            lie += bits[b] < 8 ? (int) Math.pow(2, b) : 0;
            held += in(bits[b], 10, 19) ? 1 : 0;
        }
        int who = 5;
        for (int one = 0; one < now.streets.size(); one++) {
            who = right(now, one, law) ? one : who;
        }
        return new int[] {bits.length, now.carried.get(law) ? 1 : 0, now.flung.get(law) ? 1 : 0, lie, held, who}[what];
    }

    int bit(int law, int bit) {
        if (!isBit(law, bit)) {
            throw new NoSuchElementException();
        }
        return now.bits.get(law)[bit];
    }

    int one(int one, int what) {
        if (!isOne(one) || !in(what, 0, 2)) {
            throw new NoSuchElementException();
        }
        int by = 0;
        for (int law = 0; law < now.bits.size(); law++) {
            by += right(now, one, law) ? (int) Math.pow(2, law) : 0;
        }
        return new int[] {now.streets.get(one), by, holds(now, one)}[what];
    }

    int sheet(int kind, int n, int f, int step) {
        if (kind < 0 || kind > 3 || n > 5) {
            return -1;
        }
        if (kind != 3 && n < 0) {
            return -2;
        }
        int sum = 0;
        for (int one = 0; one < now.streets.size(); one++) {
            long entry = 0;
            if (kind != 3 && one < n) {
                int whole = f;
                for (int j = 0; j < one; j++) {
                    whole += step;
                }
                entry = kind == 0 ? (whole << 24 >> 24) : kind == 1 ? (whole << 16 >> 16) : whole;
            }
            int street = entry < 0 ? 0 : entry > 7 ? 7 : (int) entry;
            now.streets.set(one, street);
            sum += street;
        }
        return kind == 3 ? -3 : sum;
    }

    // ---- what is done

    private static int landing(State s, String by, int law, int bit, int wind) {
        int street = s.bits.get(law)[bit];
        int drift = wind;
        if (!by.isEmpty()) {
            int others = total(s, p -> p == street) - 1;
            int[] names = {wind, bit, law, s.bits.get(law).length, street, others, s.day % 7};
            drift = new Reader(by, names).expression();
            drift = drift < -7 ? -7 : drift > 7 ? 7 : drift;
        }
        int end = street + drift;
        return end < 0 ? 0 : end > 7 ? 7 : end;
    }

    private static int aDay(State s, String by) {
        State ahead = s.copy();
        for (int law = 0; law < s.bits.size(); law++) {
            for (int bit = 0; bit < s.bits.get(law).length; bit++) {
                if (ahead.bits.get(law)[bit] < 8) {
                    s.bits.get(law)[bit] = landing(ahead, by, law, bit, ahead.wind);
                }
            }
        }
        int picked = 0;
        for (int one = 0; one < s.streets.size(); one++) {
            boolean done = false;
            for (int[] bits : s.bits) {
                for (int bit = 0; bit < bits.length && !done; bit++) {
                    if (bits[bit] == s.streets.get(one)) {
                        bits[bit] = 10 + one;
                        done = true;
                        picked++;
                    }
                }
            }
        }
        s.day++;
        return picked;
    }

    private static int someDays(State s, String by, int n) {
        int picked = 0;
        for (int d = 0; d < n; d++) {
            picked += aDay(s, by);
        }
        return picked;
    }

    private static State after(State s, String by, int n) {
        State t = s.copy();
        someDays(t, by, n);
        return t;
    }

    private void tell(long... numbers) {
        row = new ArrayList<>();
        for (long number : numbers) {
            row.add(number);
        }
    }

    private int act(String what, int... a) {
        switch (what) {
            case "c":
                if (!isLaw(a[0])) {
                    return -1;
                }
                if (now.carried.get(a[0])) {
                    return -2;
                }
                now.carried.set(a[0], true);
                return (int) now.carried.stream().filter(c -> c).count();
            case "t":
                if (!isLaw(a[0]) || !in(a[1], 0, 7)) {
                    return -1;
                }
                if (!now.carried.get(a[0])) {
                    return -2;
                }
                if (now.flung.get(a[0])) {
                    return -3;
                }
                now.flung.set(a[0], true);
                Arrays.fill(now.bits.get(a[0]), a[1]);
                return now.bits.get(a[0]).length;
            case "s":
                if (!isLaw(a[0])) {
                    return -1;
                }
                if (!now.flung.get(a[0])) {
                    return -2;
                }
                int were = law(a[0], 4);
                now.flung.set(a[0], false);
                now.carried.set(a[0], false);
                Arrays.fill(now.bits.get(a[0]), 20);
                return were;
            case "n":
                return in(a[0], 0, 60) ? someDays(now, rule, a[0]) : -1;
            default:
                return actOfOne(what, a);
        }
    }

    private int actOfOne(String what, int... a) {
        switch (what) {
            case "p":
                if (!isOne(a[0]) || !in(a[1], 0, 7)) {
                    return -1;
                }
                int was = now.streets.get(a[0]);
                if (was == a[1]) {
                    return -2;
                }
                now.streets.set(a[0], a[1]);
                return was < a[1] ? a[1] - was : was - a[1];
            case "g":
                if (!isOne(a[0]) || !isOne(a[1]) || !isLaw(a[2]) || a[0] == a[1]) {
                    return -1;
                }
                int gave = holds(now, a[0], a[2]);
                now.bits.set(a[2], Arrays.stream(now.bits.get(a[2])).map(p -> p == 10 + a[0] ? 10 + a[1] : p).toArray());
                return gave == 0 ? -2 : gave;
            case "l":
                if (!isOne(a[0])) {
                    return -1;
                }
                int fell = holds(now, a[0]);
                now.bits.replaceAll(b -> Arrays.stream(b).map(p -> p == 10 + a[0] ? now.streets.get(a[0]) : p).toArray());
                return fell == 0 ? -2 : fell;
            default:
                if (!in(a[0], -3, 3)) {
                    return -1;
                }
                int old = now.wind;
                now.wind = a[0];
                return old == a[0] ? -2 : 10 + old;
        }
    }

    private int deed(String what, int... a) {
        State ahead = now.copy();
        int answer = act(what, a);
        if (answer >= 0) {
            remember(ahead);
        }
        return answer;
    }

    private void remember(State ahead) {
        deeds.addLast(ahead);
        if (deeds.size() > 15) {
            deeds.removeFirst();
        }
    }

    int carries(int law) {
        return deed("c", law);
    }

    int flings(int law, int street) {
        return deed("t", law, street);
    }

    int sweeps(int law) {
        return deed("s", law);
    }

    int days(int n) {
        int answer = deed("n", n);
        if (answer >= 0) {
            tell(lying(now), rights(now));
        }
        return answer;
    }

    int walks(int one, int street) {
        return deed("p", one, street);
    }

    int gives(int one, int other, int law) {
        return deed("g", one, other, law);
    }

    int falls(int one) {
        return deed("l", one);
    }

    int wind(int v) {
        return deed("w", v);
    }

    int wedding() {
        String t = read();
        int p = fault(t, 60, s -> Arrays.stream(WEDDING_ENDS).anyMatch(e -> (s + e).matches(WEDDING)),
            s -> s.matches(WEDDING));
        if (p >= 0) {
            return -1 - p;
        }
        State ahead = now.copy();
        int done = 0;
        boolean refused = false;
        String rest = t;
        while (!rest.isEmpty() && !refused) {
            String what = rest.substring(0, 1);
            String digits = rest.substring(1).replaceAll("[a-z].*", "");
            rest = rest.substring(1 + digits.length());
            int[] a = digits.chars().map(c -> c - '0').toArray();
            if (what.equals("w")) {
                a = new int[] {Integer.parseInt(digits)};
            }
            refused = act(what, a) < 0;
            done += refused ? 0 : 1;
        }
        if (done > 0) {
            remember(ahead);
        }
        tell(refused ? 1 : 0, held(now));
        return done;
    }

    int undo() {
        if (deeds.isEmpty()) {
            return -1;
        }
        now = deeds.removeLast();
        return deeds.size();
    }

    // ---- days to come

    int later(int law, int bit, int n) {
        if (!isBit(law, bit) || !in(n, 0, 60)) {
            return -1;
        }
        State s = after(now, rule, n);
        tell(lying(s), held(s));
        return s.bits.get(law)[bit];
    }

    int when(int one, int law) {
        if (!isOne(one) || !isLaw(law)) {
            return -1;
        }
        State s = now.copy();
        for (int n = 0; n <= 60; n++, aDay(s, rule)) {
            if (right(s, one, law)) {
                tell(holds(s, one, law), lying(s));
                return n;
            }
        }
        return -2;
    }

    int clean() {
        State s = now.copy();
        for (int n = 0; n <= 60; n++, aDay(s, rule)) {
            if (lying(s) == 0) {
                tell(rights(s));
                return n;
            }
        }
        return -2;
    }

    int drifts(int n) {
        if (!in(n, 0, 60)) {
            return -1;
        }
        State s = after(now, rule, n);
        long[] numbers = new long[9];
        for (int street = 0; street < 8; street++) {
            int here = street;
            numbers[1 + street] = total(s, p -> p == here);
        }
        long most = Arrays.stream(numbers).skip(1).max().getAsLong();
        for (int street = 7; street >= 0; street--) {
            numbers[0] = numbers[1 + street] == most ? street : numbers[0];
        }
        tell(numbers);
        return (int) most;
    }

    int aims(int law, int one, int n) {
        if (!isLaw(law) || !isOne(one) || !in(n, 0, 30)) {
            return -1;
        }
        if (now.flung.get(law)) {
            return -3;
        }
        List<Integer> from = new ArrayList<>();
        for (int street = 0; street < 8; street++) {
            State s = now.copy();
            s.flung.set(law, true);
            Arrays.fill(s.bits.get(law), street);
            if (right(after(s, rule, n), one, law)) {
                from.add(street);
            }
        }
        if (from.isEmpty()) {
            return -2;
        }
        tell(from.size());
        return from.get(0);
    }

    int prays(int one, int n) {
        if (!isOne(one) || !in(n, 0, 30)) {
            return -1;
        }
        TreeMap<Integer, Integer> firstBy = new TreeMap<>();
        for (int v = 3; v >= -3; v--) {
            State s = now.copy();
            s.wind = v;
            firstBy.put(holds(after(s, rule, n), one), v);
        }
        tell(firstBy.lastKey(), holds(after(now, rule, n), one));
        return 10 + firstBy.lastEntry().getValue();
    }

    int seeks(int one, int n) {
        if (!isOne(one) || !in(n, 0, 30)) {
            return -1;
        }
        int[] best = null;
        for (int street = 0; street < 8; street++) {
            State s = now.copy();
            s.streets.set(one, street);
            int[] its = {-holds(after(s, rule, n), one), Math.abs(street - now.streets.get(one)), street};
            best = best == null || Arrays.compare(its, best) < 0 ? its : best;
        }
        tell(-best[0], best[1]);
        return best[2];
    }

    // ---- whose bits they are

    private List<int[]> sets() {
        List<int[]> sets = new ArrayList<>();
        for (int set = 0; set < 1 << now.streets.size(); set++) {
            sets.add(new int[] {Integer.bitCount(set), set});
        }
        return sets;
    }

    private static boolean has(int set, int one) {
        return (set & 1 << one) != 0;
    }

    private int[] fewest(IntPredicate fine) {
        return sets().stream().filter(s -> fine.test(s[1])).min(Arrays::compare).orElse(null);
    }

    int whole(int law) {
        if (!isLaw(law)) {
            return -1;
        }
        int[] best = fewest(set -> Arrays.stream(now.bits.get(law)).allMatch(p -> in(p, 10, 19) && has(set, p - 10)));
        if (best == null) {
            return -2;
        }
        tell(best[1]);
        return best[0];
    }

    int quorum() {
        List<int[]> some = now.bits.stream().filter(b -> Arrays.stream(b).anyMatch(p -> in(p, 10, 19))).toList();
        int[] best = fewest(set -> some.stream().allMatch(
            b -> Arrays.stream(b).anyMatch(p -> in(p, 10, 19) && has(set, p - 10))));
        tell(best[1], some.size());
        return best[0];
    }

    private long[] bestAwards(long[] best, long[] row, int law, int sum) {
        if (law == row.length - 1) {
            row[0] = -sum;
            return best == null || Arrays.compare(row, best) < 0 ? row.clone() : best;
        }
        long[] least = best;
        for (int one = -1; one < now.streets.size(); one++) {
            boolean taken = false;
            for (int before = 0; before < law; before++) {
                taken |= one >= 0 && row[1 + before] == one;
            }
            if (!taken) {
                row[1 + law] = one;
                least = bestAwards(least, row, law + 1, sum + (one < 0 ? 0 : holds(now, one, law)));
            }
        }
        return least;
    }

    int awards() {
        long[] best = bestAwards(null, new long[1 + now.bits.size()], 0, 0);
        tell(Arrays.copyOfRange(best, 1, best.length));
        return (int) -best[0];
    }

    int needs(int one, int law) {
        if (!isOne(one) || !isLaw(law)) {
            return -1;
        }
        int own = holds(now, one, law);
        int others = law(law, 4) - own;
        for (int given = 0; given <= others; given++) {
            if (now.flung.get(law) && 2 * (own + given) > law(law, 0)) {
                tell(own);
                return given;
            }
        }
        return -2;
    }

    int line() {
        List<Long> order = new ArrayList<>();
        for (int one = 0; one < now.streets.size(); one++) {
            order.add((long) one);
        }
        order.sort((a, b) -> holds(now, b.intValue()) - holds(now, a.intValue()));
        row = order;
        return order.size();
    }

    private boolean carry(int set) {
        int sum = 0;
        for (int one = 0; one < now.streets.size(); one++) {
            sum += has(set, one) ? holds(now, one) : 0;
        }
        return sum > held(now) / 2.0;
    }

    private void tellFraction(long upper, long lower) {
        long g = BigInteger.valueOf(upper).gcd(BigInteger.valueOf(lower)).longValue();
        tell(upper / g, lower / g);
    }

    int power(int one) {
        if (!isOne(one)) {
            return -1;
        }
        List<int[]> without = sets().stream().filter(s -> !has(s[1], one)).toList();
        tellFraction(without.stream().filter(s -> !carry(s[1]) && carry(s[1] | 1 << one)).count(), without.size());
        return 0;
    }

    int least() {
        List<Long> least = new ArrayList<>();
        for (int[] s : sets()) {
            boolean fine = carry(s[1]);
            for (int one = 0; one < 5; one++) {
                fine &= !has(s[1], one) || !carry(s[1] - (1 << one));
            }
            if (fine) {
                least.add((long) s[1]);
            }
        }
        row = new ArrayList<>(least.subList(0, Math.min(1, least.size())));
        return least.size();
    }

    // ---- guesses

    int seen(int law, int bit, int street) {
        if (!isBit(law, bit) || !in(street, 0, 7) || sights.size() == 10) {
            return -1;
        }
        if (now.bits.get(law)[bit] >= 8) {
            return -2;
        }
        sights.add(new int[] {law, bit, street});
        return sights.size();
    }

    private static int emptied(List<int[]> list) {
        int n = list.size();
        list.clear();
        return n;
    }

    int forget() {
        return emptied(sights);
    }

    private List<Integer> winds() {
        List<Integer> winds = new ArrayList<>();
        for (int v = -3; v <= 3; v++) {
            int by = v;
            if (sights.stream().allMatch(s -> now.bits.get(s[0])[s[1]] < 8
                && landing(now, rule, s[0], s[1], by) == s[2])) {
                winds.add(v);
            }
        }
        return winds;
    }

    int guess() {
        List<Integer> winds = winds();
        tell(winds.size(), winds.contains(now.wind) ? 1 : 0);
        return winds.stream().mapToInt(v -> 1 << 3 + v).sum();
    }

    private static int mostAlike(int[] values) {
        int most = 0;
        for (int a : values) {
            most = Math.max(most, (int) Arrays.stream(values).filter(b -> a == b).count());
        }
        return most;
    }

    int looks() {
        List<Integer> winds = winds();
        int[] best = null;
        for (int law = 0; law < now.bits.size(); law++) {
            for (int bit = 0; bit < now.bits.get(law).length; bit++) {
                if (now.bits.get(law)[bit] < 8 && !winds.isEmpty()) {
                    int l = law;
                    int b = bit;
                    int[] ends = winds.stream().mapToInt(v -> landing(now, rule, l, b, v)).toArray();
                    int[] its = {mostAlike(ends), 10 * law + bit};
                    best = best == null || Arrays.compare(its, best) < 0 ? its : best;
                }
            }
        }
        if (best == null) {
            return -2;
        }
        tell(best[0]);
        return best[1];
    }

    private static final int[] TALK = {7, 9, 4, 4};

    int heard(int what, int v) {
        if (!in(what, 0, 3) || !in(v, 0, TALK[what]) || talk.size() == 12) {
            return -1;
        }
        talk.add(new int[] {what, v});
        return talk.size();
    }

    int denies() {
        return emptied(talk);
    }

    private boolean isSo(int one, int what, int v) {
        return switch (what) {
            case 0 -> now.streets.get(one) == v;
            case 1 -> holds(now, one) >= v;
            case 2 -> holds(now, one, v) > 0;
            default -> right(now, one, v);
        };
    }

    private List<Integer> fitting() {
        List<Integer> ones = new ArrayList<>();
        for (int one = 0; one < now.streets.size(); one++) {
            int who = one;
            if (talk.stream().allMatch(t -> isSo(who, t[0], t[1]))) {
                ones.add(one);
            }
        }
        return ones;
    }

    int fits() {
        tell(fitting().size());
        return fitting().stream().mapToInt(one -> 1 << one).sum();
    }

    int asks() {
        List<Integer> ones = fitting();
        if (ones.isEmpty()) {
            return -2;
        }
        int[] best = null;
        for (int what = 0; what <= 3; what++) {
            for (int v = 0; v <= TALK[what]; v++) {
                int w = what;
                int u = v;
                int[] its = {mostAlike(ones.stream().mapToInt(one -> isSo(one, w, u) ? 1 : 0).toArray()), 10 * what + v};
                best = best == null || Arrays.compare(its, best) < 0 ? its : best;
            }
        }
        tell(best[0]);
        return best[1];
    }

    // ---- chances

    int odds(int one, int law, int p) {
        if (!isOne(one) || !isLaw(law) || !in(p, 0, 10)) {
            return -1;
        }
        int own = holds(now, one, law);
        long upper = 0;
        long lower = 1;
        for (int b = 0; b < own; b++) {
            lower *= 10;
        }
        for (long draw = 0; draw < lower; draw++) {
            int left = 0;
            long rest = draw;
            for (int b = 0; b < own; b++, rest /= 10) {
                left += rest % 10 >= p ? 1 : 0;
            }
            upper += 2 * left > law(law, 0) ? 1 : 0;
        }
        tellFraction(upper, lower);
        return 0;
    }

    // ---- laws of scattering

    int went(int w, int i, int v) {
        if (!in(w, -3, 3) || !in(i, 0, 3) || !in(v, -20, 20) || flights.size() == 10) {
            return -1;
        }
        flights.add(new int[] {w, i, v});
        return flights.size();
    }

    int clears() {
        return emptied(flights);
    }

    private List<int[]> scattering() {
        List<int[]> laws = new ArrayList<>();
        for (int a = 0; a <= 3; a++) {
            for (int b = -2; b <= 2; b++) {
                int[] law = {a, b};
                if (flights.stream().allMatch(f -> law[0] * f[0] + law[1] * f[1] == f[2])) {
                    laws.add(law);
                }
            }
        }
        return laws;
    }

    int scatters() {
        List<int[]> laws = scattering();
        tell();
        if (!laws.isEmpty()) {
            tell(laws.get(0)[0], 10 + laws.get(0)[1]);
        }
        return laws.size();
    }

    int tries() {
        List<int[]> laws = scattering();
        if (laws.isEmpty()) {
            return -2;
        }
        int[] best = null;
        for (int q = 0; q <= 63; q++) {
            if (q % 10 <= 3) {
                int w = q / 10 - 3;
                int i = q % 10;
                int[] its = {mostAlike(laws.stream().mapToInt(l -> l[0] * w + l[1] * i).toArray()), q};
                best = best == null || Arrays.compare(its, best) < 0 ? its : best;
            }
        }
        tell(best[0]);
        return best[1];
    }

    // ---- games

    private static boolean wins(int n, Boolean[] known) {
        if (known[n] == null) {
            known[n] = false;
            for (int root = 1; root * root <= n; root++) {
                known[n] |= !wins(n - root * root, known);
            }
        }
        return known[n];
    }

    int handfuls(int n) {
        if (!in(n, 0, 60)) {
            return -1;
        }
        for (int root = 1; root * root <= n; root++) {
            if (!wins(n - root * root, new Boolean[61])) {
                return root * root;
            }
        }
        return 0;
    }

    int other() {
        String t = read();
        int p = ruleFault(t);
        if (p >= 0) {
            return -10000 - p;
        }
        State by = after(now, t, 10);
        State as = after(now, rule, 10);
        if (held(by) >= held(as)) {
            tell(held(by), held(as), rights(by), rights(as));
        }
        return held(by) - held(as);
    }

    private static int has(int v, int own, int others) {
        if (own + others <= v) {
            return 2 * own;
        }
        int left = v - others - 3;
        return left < 0 ? 0 : left;
    }

    int grasps(int v) {
        if (!in(v, 0, 18)) {
            return -1;
        }
        List<int[]> rest = new ArrayList<>();
        for (int x = 0; x <= 9; x++) {
            for (int y = 0; y <= 9; y++) {
                boolean fine = true;
                for (int z = 0; z <= 9; z++) {
                    fine &= has(v, z, y) <= has(v, x, y) && has(v, z, x) <= has(v, y, x);
                }
                if (fine) {
                    rest.add(new int[] {x, y});
                }
            }
        }
        tell();
        if (!rest.isEmpty()) {
            tell(rest.get(0)[0], rest.get(0)[1]);
        }
        return rest.size();
    }

    private BigInteger drawn;

    private int draw(int n) {
        BigInteger round = BigInteger.ONE.shiftLeft(32);
        drawn = drawn.multiply(BigInteger.valueOf(1103515245)).add(BigInteger.valueOf(12345)).mod(round);
        return drawn.divide(BigInteger.valueOf(65536)).mod(BigInteger.valueOf(n)).intValue();
    }

    int years(int seed, int n) {
        if (!in(n, 1, 60)) {
            return -1;
        }
        drawn = BigInteger.valueOf(seed);
        State s = now.copy();
        int picked = 0;
        for (int turn = 0; turn < n; turn++) {
            int lot = draw(4);
            if (lot == 0 || lot == 1) {
                picked += aDay(s, rule);
            }
            if (lot == 2) {
                s.wind = draw(7) - 3;
            }
            if (lot == 3 && !s.streets.isEmpty()) {
                int who = draw(s.streets.size());
                s.streets.set(who, draw(8));
            }
        }
        tell(lying(s), rights(s));
        return picked;
    }

    // ---- kept

    boolean keep(int i) {
        if (!in(i, 0, 2)) {
            return false;
        }
        kept[i] = now.copy();
        return true;
    }

    boolean again(int i) {
        if (!in(i, 0, 2) || kept[i] == null) {
            return false;
        }
        now = kept[i].copy();
        deeds.clear();
        return true;
    }

    private static int bits(List<Boolean> list) {
        int set = 0;
        for (int i = 0; i < list.size(); i++) {
            set += list.get(i) ? 1 << i : 0;
        }
        return set;
    }

    int count(int what) {
        int[] all = {now.bits.size(), now.streets.size(), now.wind + 10, now.day, bits(now.carried), bits(now.flung),
            lying(now), held(now), sights.size(), talk.size(), flights.size(), deeds.size(), row.size(), text.length()};
        return in(what, 0, 13) ? all[what] : -100;
    }

    long row(int i) {
        if (!in(i, 0, row.size() - 1)) {
            throw new NoSuchElementException();
        }
        return row.get(i);
    }
}
