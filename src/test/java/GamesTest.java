/** Promises 48 to 51, 54 and 55: a game, another rule, grasps, years, and what is counted. */
public final class GamesTest {
    private static final Check CHECK = new Check("GamesTest");

    public static void main(String[] args) {
        handfuls();
        other();
        otherBelowNothing();
        grasps();
        years();
        yearsAreNoDeed();
        counts();
        rows();
        CHECK.end();
    }

    private static void handfuls() {
        ConfettiMinutes x = new ConfettiMinutes();
        String lost = " 0 2 5 7 10 12 15 17 20 22 34 39 44 52 57 ";
        for (int n = 0; n <= 60; n++) {
            int handful = x.handfuls(n);
            CHECK.due("handfuls(" + n + ") is none", handful == 0, lost.contains(" " + n + " "));
            if (handful != 0) {
                CHECK.due("handfuls(" + n + ") leaves a lost heap", lost.contains(" " + (n - handful) + " "), true);
            }
        }
        int[][] due = {{1, 1}, {3, 1}, {4, 4}, {8, 1}, {9, 4}, {11, 1}, {38, 4}, {60, 16}, {53, 1}, {36, 16}, {30, 25}};
        for (int[] a : due) {
            CHECK.due("handfuls(" + a[0] + ")", x.handfuls(a[0]), a[1]);
        }
        CHECK.due("handfuls(61)", x.handfuls(61), -1);
        CHECK.due("handfuls(-1)", x.handfuls(-1), -1);
        CHECK.row("handfuls", x);
    }

    private static void other() {
        ConfettiMinutes x = Check.town("3;1", "4;0");
        CHECK.wed(x, "c0c1t00t17");
        CHECK.due("0", Check.text(x, "0").other(), 2);
        CHECK.row("0", x, 3, 1, 1, 0);
        CHECK.due("THE TEXT", x.count(13), 0);
        CHECK.due("THE RULE stays", x.later(0, 0, 1), 1);
        CHECK.due("nothing is done", x.count(3), 0);
        CHECK.due("none", Check.text(x, "").other(), 0);
        CHECK.row("none", x, 1, 1, 0, 0);
        CHECK.due("a fault", Check.text(x, "1<2<3").other(), -10003);
        CHECK.due("a fault at once", Check.text(x, ")").other(), -10000);
        CHECK.due("too long", Check.text(x, "-".repeat(41)).other(), -10040);
        CHECK.row("faults", x, 1, 1, 0, 0);
        Check.text(x, "3*(l=0)+w-1").rule();
        Check.text(x, "2").other();
        CHECK.due("by THE RULE behind it", Check.text(x, "3*(l=0)").other(), 0);
        CHECK.due("ten DAYS", Check.text(x, "0-(n=3)").other(), 3);
        CHECK.row("ten DAYS", x, 3, 0, 1, 0);
        ConfettiMinutes y = Check.town("4;4;3", "0");
        CHECK.wed(y, "c0c1c2t00t10t20");
        CHECK.due("one BIT a DAY", Check.text(y, "0").other(), 10);
        CHECK.row("one BIT a DAY", y, 10, 0, 3, 0);
    }

    /** Terms 2 say that the ROW stays with each answer below 0; promise 49 does not take it back. */
    private static void otherBelowNothing() {
        ConfettiMinutes x = Check.town("3;1", "4;0");
        CHECK.wed(x, "c0c1t00t17");
        Check.text(x, "0").rule();
        CHECK.due("w, less 0", Check.text(x, "w").other(), -2);
        CHECK.row("an answer below 0", x, 0, 0);
    }

    private static void grasps() {
        ConfettiMinutes x = new ConfettiMinutes();
        int[][] due = {{0, 100, 0, 0}, {1, 83, 0, 1}, {9, 11, 0, 9}, {17, 2, 8, 9}, {18, 1, 9, 9}, {16, 3, 7, 9}};
        for (int[] a : due) {
            CHECK.due("grasps(" + a[0] + ")", x.grasps(a[0]), a[1]);
            CHECK.row("grasps(" + a[0] + ")", x, a[2], a[3]);
        }
        CHECK.due("grasps(19)", x.grasps(19), -1);
        CHECK.due("grasps(-1)", x.grasps(-1), -1);
        CHECK.row("refused ones", x, 7, 9);
    }

    /** Years are drawn here once more, in longs, and done as deeds. */
    private static void years() {
        int[] seeds = {0, 1, -1, 12345, Integer.MIN_VALUE, Integer.MAX_VALUE, 77, -987654321};
        for (int seed : seeds) {
            for (int n = 1; n <= 60; n += n < 8 ? 1 : 13) {
                for (String people : new String[] {"", "3", "0;5;7;2;2"}) {
                    yearsBy(seed, n, people);
                }
            }
            yearsBy(seed, 60, "1;2;3");
        }
        ConfettiMinutes x = new ConfettiMinutes();
        CHECK.due("years(1, 0)", x.years(1, 0), -1);
        CHECK.due("years(1, 61)", x.years(1, 61), -1);
        CHECK.due("years(1, -1)", x.years(1, -1), -1);
        CHECK.row("refused ones", x);
    }

    private static void yearsBy(int seed, int n, String people) {
        ConfettiMinutes asked = windy(people);
        ConfettiMinutes done = windy(people);
        long r = seed & 0xFFFFFFFFL;
        int picked = 0;
        for (int turn = 0; turn < n; turn++) {
            r = next(r);
            long lot = (r / 65536) % 4;
            if (lot <= 1) {
                picked += done.days(1);
            } else if (lot == 2) {
                r = next(r);
                done.wind((int) (r / 65536 % 7) - 3);
            } else if (done.count(1) > 0) {
                r = next(r);
                int one = (int) (r / 65536 % done.count(1));
                r = next(r);
                done.walks(one, (int) (r / 65536 % 8));
            }
        }
        String call = "years(" + seed + ", " + n + ") of " + people;
        CHECK.due(call, asked.years(seed, n), picked);
        done.days(0);
        CHECK.row(call, asked, done.row(0), done.row(1));
    }

    private static ConfettiMinutes windy(String people) {
        ConfettiMinutes x = Check.town("3;4;1;2", people);
        Check.text(x, "w-(n=2)*(i-l)").rule();
        CHECK.wed(x, "c0c1c2c3t00t13t27t35");
        return x;
    }

    private static long next(long r) {
        return (r * 1103515245L + 12345L) & 0xFFFFFFFFL;
    }

    private static void yearsAreNoDeed() {
        ConfettiMinutes x = windy("0;5");
        x.years(5, 60);
        CHECK.due("DAY", x.count(3), 0);
        CHECK.due("WIND", x.count(2), 11);
        CHECK.due("STREET", x.one(1, 0), 5);
        CHECK.due("HELD", x.count(7), 0);
        CHECK.due("deeds", x.count(11), 1);
    }

    private static void counts() {
        ConfettiMinutes x = Check.town("3;4;1", "0;5");
        CHECK.wed(x, "w-0c0c2t00n2w-3c1");
        x.seen(0, 2, 0);
        x.heard(0, 0);
        x.heard(0, 0);
        x.went(0, 0, 0);
        x.went(0, 0, 0);
        x.went(0, 0, 0);
        x.days(0);
        x.sign(0);
        x.end(3);
        int[] due = {3, 2, 7, 2, 7, 1, 1, 2, 1, 2, 3, 2, 2, 3};
        for (int what = 0; what <= 13; what++) {
            CHECK.due("count(" + what + ")", x.count(what), due[what]);
        }
        CHECK.due("count(14)", x.count(14), -100);
        CHECK.due("count(-1)", x.count(-1), -100);
        CHECK.due("count(least int)", x.count(Integer.MIN_VALUE), -100);
    }

    private static void rows() {
        ConfettiMinutes x = Check.town("", "0;5");
        CHECK.noSuch("row(0)", () -> x.row(0));
        x.line();
        CHECK.due("row(1)", x.row(1), 1);
        CHECK.noSuch("row(2)", () -> x.row(2));
        CHECK.noSuch("row(-1)", () -> x.row(-1));
        CHECK.noSuch("row(least int)", () -> x.row(Integer.MIN_VALUE));
        CHECK.noSuch("row(most int)", () -> x.row(Integer.MAX_VALUE));
        x.walks(0, 3);
        x.wind(2);
        x.guess();
        CHECK.row("guess()", x, 7, 1);
        x.later(0, 0, 0);
        x.whole(0);
        x.looks();
        x.count(3);
        x.keep(0);
        x.again(0);
        x.handfuls(9);
        CHECK.row("others", x, 7, 1);
        x.least();
        CHECK.row("least()", x);
    }
}
