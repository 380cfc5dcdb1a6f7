/** Boundary cases that promises 48 to 51, 54 and 55 name: a game, another rule, grasps, years, what is counted. */
public final class EdgesOfGamesTest {
    private static final Edges EDGES = new Edges("EdgesOfGamesTest");
    private static final int LEAST = Integer.MIN_VALUE;
    private static final int MOST = Integer.MAX_VALUE;
    /** 40 signs that may end. */
    private static final String FORTY = "1+".repeat(18) + "w+10";

    public static void main(String[] args) {
        handfuls();
        other();
        otherFaults();
        grasps();
        graspsAtTheEnds();
        years();
        count();
        row();
        EDGES.end(48, 49, 50, 51, 54, 55);
    }

    private static void handfuls() {
        EDGES.edge(48, "out of a heap of n (0 .. 60) bits: a square number of them (1, 4, 9, ..)", c -> {
            ConfettiMinutes x = new ConfettiMinutes();
            boolean[] wins = new boolean[61];
            for (int n = 0; n <= 60; n++) {
                int least = 0;
                for (int root = 7; root >= 1; root--) {
                    least = root * root <= n && !wins[n - root * root] ? root * root : least;
                }
                wins[n] = least > 0;
                c.due("of " + n, x.handfuls(n), least);
            }
        });
        EDGES.edge(48, "who takes the last has won: the least number by which the first one wins; 0: by none.", c -> {
            ConfettiMinutes x = new ConfettiMinutes();
            c.due("an empty heap", x.handfuls(0), 0);
            c.due("the only one", x.handfuls(1), 1);
            c.due("of two", x.handfuls(2), 0);
            c.due("all of four", x.handfuls(4), 4);
            c.due("four of nine, though all nine win, too", x.handfuls(9), 4);
            c.due("all of 49", x.handfuls(49), 49);
            c.due("of 60", x.handfuls(60), 16);
        });
        EDGES.edge(48, "NONE: another n.", c -> {
            ConfettiMinutes x = new ConfettiMinutes();
            for (int n : new int[] {-1, 61, LEAST, MOST, 64}) {
                c.due("handfuls(" + n + ")", x.handfuls(n), -1);
            }
        });
    }

    private static void other() {
        EDGES.edge(49, "THE TEXT is another RULE (an empty one: none)", c -> {
            ConfettiMinutes x = Edges.ruled("1", "4", "0", "c0t00");
            c.due("by WIND", Check.text(x, "").other(), 1);
            c.row("by WIND", x, 1, 0, 1, 0);
            c.due("THE RULE stays", x.later(0, 0, 1), 0);
            Check.text(x, "").rule();
            c.due("both none", Check.text(x, "").other(), 0);
            c.row("both none", x, 1, 1, 1, 1);
            ConfettiMinutes none = new ConfettiMinutes();
            c.due("no LAWS", Check.text(none, "3").other(), 0);
            c.row("no LAWS", none, 0, 0, 0, 0);
        });
        EDGES.edge(49, "how many BITS are HELD behind 10 DAYS by it, less by THE RULE (below 0, too);", c -> {
            ConfettiMinutes x = Edges.ruled("4;4;4", "0", "1", "c0c1c2t00t10t20");
            c.due("ten, one a DAY", Check.text(x, "0").other(), 10);
            c.row("ten, one a DAY", x, 10, 0, 2, 0);
            Check.text(x, "0").rule();
            c.due("ten less", Check.text(x, "1").other(), -10);
            c.due("as many", Check.text(x, "0*w").other(), 0);
            c.row("as many", x, 10, 10, 2, 2);
            c.due("DAY", x.count(3), 0);
        });
    }

    private static void otherFaults() {
        EDGES.edge(49, "-10000 - p: the sign at p can't stand there (as rule()).", c -> {
            String[] texts = {"x", ")", "w+*", "1<2<3", "1234", "(((((", "w+", "(", "((w)", FORTY + "+", FORTY + "x",
                FORTY.substring(0, 39) + "+", FORTY.substring(0, 39) + "+w", FORTY.substring(0, 39) + "x1"};
            int[] due = {0, 0, 2, 3, 3, 4, 2, 1, 4, 40, 40, 40, 40, 39};
            ConfettiMinutes x = Edges.ruled("1", "4", "0", "c0t00");
            x.line();
            for (int t = 0; t < texts.length; t++) {
                c.due(texts[t], Check.text(x, texts[t]).other(), -10000 - due[t]);
                c.due("THE TEXT behind " + texts[t], x.count(13), 0);
            }
            c.row("faults", x, 0);
            c.due("40 signs", Check.text(x, FORTY).other(), 0);
            c.due("THE RULE stays", x.later(0, 0, 1), 0);
        });
    }

    /** What one has who grasps at x, as the other one does at y. */
    private static int has(int v, int x, int y) {
        if (x + y <= v) {
            return 2 * x;
        }
        return v - y - 3 < 0 ? 0 : v - y - 3;
    }

    private static boolean rests(int v, int x, int y) {
        boolean rests = true;
        for (int z = 0; z <= 9; z++) {
            rests &= has(v, z, y) <= has(v, x, y) && has(v, z, x) <= has(v, y, x);
        }
        return rests;
    }

    private static void grasps() {
        EDGES.edge(50, "Two grasp at x and y (0 .. 9) bits of v (0 .. 18)", c -> {
            ConfettiMinutes x = new ConfettiMinutes();
            for (int v = 0; v <= 18; v++) {
                int pairs = 0;
                int least = -1;
                for (int pair = 99; pair >= 0; pair--) {
                    boolean rests = rests(v, pair / 10, pair % 10);
                    pairs += rests ? 1 : 0;
                    least = rests ? pair : least;
                }
                c.due("grasps(" + v + ")", x.grasps(v), pairs);
                c.row("grasps(" + v + ")", x, least / 10, least % 10);
            }
        });
    }

    private static void graspsAtTheEnds() {
        EDGES.edge(50, "less 3 (0 at least)", c -> {
            ConfettiMinutes x = new ConfettiMinutes();
            c.due("of none all have 0", x.grasps(0), 100);
            c.row("of none all have 0", x, 0, 0);
        });
        EDGES.edge(50, "if both together are v or less, each has 2 for each of its own;", c -> {
            ConfettiMinutes x = new ConfettiMinutes();
            c.due("of 18 both have 9", x.grasps(18), 1);
            c.row("of 18 both have 9", x, 9, 9);
            c.due("of 17 one has 8", x.grasps(17), 2);
            c.row("of 17 one has 8", x, 8, 9);
        });
        EDGES.edge(50, "NONE: another v.", c -> {
            ConfettiMinutes x = new ConfettiMinutes();
            x.grasps(18);
            for (int v : new int[] {-1, 19, LEAST, MOST}) {
                c.due("grasps(" + v + ")", x.grasps(v), -1);
                c.row("that", x, 9, 9);
            }
        });
    }

    private static ConfettiMinutes windy(String people) {
        return Edges.ruled("3;4;1;2", people, "w-(n=2)*(i-l)", "c0c1c2c3t00t13t27t35");
    }

    /** R behind a DRAW, without its sign. */
    private static long next(long r) {
        return (r * 1103515245L + 12345L) & 0xFFFFFFFFL;
    }

    /** Years as the document tells them, drawn in longs and done as deeds: how many were picked up. */
    private static int lived(ConfettiMinutes x, int seed, int n) {
        long r = seed & 0xFFFFFFFFL;
        int picked = 0;
        for (int turn = 0; turn < n; turn++) {
            r = next(r);
            long lot = r / 65536 % 4;
            if (lot <= 1) {
                picked += x.days(1);
            } else if (lot == 2) {
                r = next(r);
                x.wind((int) (r / 65536 % 7) - 3);
            } else if (x.count(1) > 0) {
                r = next(r);
                int one = (int) (r / 65536 % x.count(1));
                r = next(r);
                x.walks(one, (int) (r / 65536 % 8));
            }
        }
        x.days(0);
        return picked;
    }

    private static void years(Check c, String people, int seed, int n) {
        ConfettiMinutes asked = windy(people);
        ConfettiMinutes done = windy(people);
        String call = "years(" + seed + ", " + n + ") of " + people;
        c.due(call, asked.years(seed, n), lived(done, seed, n));
        c.row(call, asked, done.row(0), done.row(1));
        c.due("DAY behind " + call, asked.count(3), 0);
    }

    private static void years() {
        EDGES.edge(51, "n times (1 .. 60)", c -> {
            for (int seed = 0; seed < 40; seed++) {
                years(c, "0;3;5;7;2", seed, 1);
                years(c, "0;3;5;7;2", seed, 59);
                years(c, "0;3;5;7;2", seed, 60);
            }
        });
        EDGES.edge(51, "NONE: another n.", c -> {
            ConfettiMinutes x = windy("0");
            for (int n : new int[] {0, -1, 61, LEAST, MOST}) {
                c.due("years(7, " + n + ")", x.years(7, n), -1);
                c.row("that", x, 0, 0);
            }
        });
        EDGES.edge(51, "3: a DRAW of PEOPLE, a DRAW of 8 tell who is in what STREET then (no DRAWS without PEOPLE)", c -> {
            for (int seed = 0; seed < 40; seed++) {
                years(c, "", seed, 60);
                years(c, "4", seed, 60);
            }
            ConfettiMinutes none = new ConfettiMinutes();
            c.due("without LAWS, too", none.years(3, 60), 0);
            c.row("without LAWS, too", none, 0, 0);
        });
        EDGES.edge(51, "(as ints; R is seed at first), (R without sign, by 65536) % n.", c -> {
            for (int seed : new int[] {0, -1, LEAST, MOST, -65536, 65536, 0x7FFF0000, 0x80000000, -123456789, 987654321}) {
                years(c, "0;3;5;7;2", seed, 60);
                years(c, "6;1", seed, 33);
            }
        });
    }

    private static void count() {
        EDGES.edge(54, "2: WIND and 10", c -> {
            ConfettiMinutes x = new ConfettiMinutes();
            x.wind(-3);
            c.due("the least", x.count(2), 7);
            x.wind(3);
            c.due("the most", x.count(2), 13);
        });
        EDGES.edge(54, "4: which are CARRIED (bits), 5: which are FLUNG (bits), 6: how many BITS lie, 7: how many are", c -> {
            ConfettiMinutes x = Edges.calm("4;4;4;4;4", "0;0;0;0;0", "");
            c.due("none is CARRIED", x.count(4), 0);
            Check.text(x, "c0c1c2c3c4t00t10t20t30t40").wedding();
            c.due("all are CARRIED", x.count(4), 31);
            c.due("all are FLUNG", x.count(5), 31);
            c.due("all lie", x.count(6), 20);
            c.due("none is HELD", x.count(7), 0);
            x.days(4);
            c.due("none lies", x.count(6), 0);
            c.due("all are HELD", x.count(7), 20);
            Check.text(x, "s4").wedding();
            c.due("CARRIED are four", x.count(4), 15);
            c.due("FLUNG are four", x.count(5), 15);
        });
        EDGES.edge(54, "8: what was seen, 9: what was heard, 10: what was told (went()), 11: what can be undone", c -> {
            ConfettiMinutes x = Edges.ruled("1", "0", "", "c0t03");
            for (int n = 1; n <= 16; n++) {
                x.seen(0, 0, 3);
                x.heard(0, 0);
                x.went(0, 0, 0);
                c.due("seen " + n, x.count(8), Math.min(10, n));
                c.due("heard " + n, x.count(9), Math.min(12, n));
                c.due("told " + n, x.count(10), Math.min(10, n));
                c.due("can be undone", x.count(11), Math.min(15, n));
                x.days(0);
            }
        });
        EDGES.edge(54, "12: numbers of the ROW, 13: signs of THE TEXT.", c -> {
            ConfettiMinutes x = new ConfettiMinutes();
            c.due("no ROW", x.count(12), 0);
            c.due("no TEXT", x.count(13), 0);
            x.drifts(0);
            c.due("the longest ROW", x.count(12), 9);
            Check.text(x, "w".repeat(80));
            c.due("the longest TEXT", x.count(13), 80);
            x.line();
            c.due("a ROW without numbers", x.count(12), 0);
        });
        EDGES.edge(54, "-100 for another what.", c -> {
            ConfettiMinutes x = Check.town("1", "0");
            for (int what : new int[] {-1, 14, 15, LEAST, MOST}) {
                c.due("count(" + what + ")", x.count(what), -100);
            }
            c.due("count(0)", x.count(0), 1);
            c.due("count(13)", x.count(13), 0);
        });
    }

    private static void row() {
        EDGES.edge(55, "NoSuchElementException: none such.", c -> {
            ConfettiMinutes x = Check.town("1", "3;5");
            c.noSuch("row(0) of no ROW", () -> x.row(0));
            x.drifts(0);
            c.due("row(8)", x.row(8), 0);
            c.noSuch("row(9)", () -> x.row(9));
            x.line();
            c.due("row(0)", x.row(0), 0);
            c.due("row(1)", x.row(1), 1);
            for (int i : new int[] {-1, 2, 8, 9, 12, LEAST, MOST}) {
                c.noSuch("row(" + i + ")", () -> x.row(i));
            }
            x.least();
            c.noSuch("row(0) of a ROW without numbers", () -> x.row(0));
        });
    }
}
