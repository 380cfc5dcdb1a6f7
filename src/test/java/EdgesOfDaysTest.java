/** Boundary cases that promises 21 to 27 name: days to come, and so that one has a right. */
public final class EdgesOfDaysTest {
    private static final Edges EDGES = new Edges("EdgesOfDaysTest");
    private static final int LEAST = Integer.MIN_VALUE;
    private static final int MOST = Integer.MAX_VALUE;

    public static void main(String[] args) {
        later();
        when();
        clean();
        drifts();
        aims();
        aimsRefused();
        prays();
        seeks();
        EDGES.end(21, 22, 23, 24, 25, 26, 27);
    }

    /** A BIT that goes from 0 to 1, or back, behind 4, 11, .. 53, 60 DAYS. */
    private static ConfettiMinutes flips() {
        return Edges.ruled("1", "", "(n=3)*(1-2*(s>0))", "c0t00");
    }

    /** BITS come to STREET 7 behind 49 DAYS, and from the 49th on one of them is picked up each DAY. */
    private static ConfettiMinutes slow(String laws, String acts) {
        return Edges.ruled(laws, "7", "n=3", "n4c0c1c2t00t10t20" + acts);
    }

    /** A BIT goes one STREET up behind 2, 9, 16, 23, 30 DAYS. */
    private static ConfettiMinutes crawls(String people, String acts) {
        return Edges.ruled("1", people, "n=1", acts);
    }

    private static void later() {
        EDGES.edge(21, "Where a BIT is in n DAYS (0 .. 60): as bit();", c -> {
            ConfettiMinutes x = flips();
            c.due("in 0", x.later(0, 0, 0), 0);
            c.due("in 3", x.later(0, 0, 3), 0);
            c.due("in 4", x.later(0, 0, 4), 1);
            c.due("in 59", x.later(0, 0, 59), 0);
            c.due("in 60", x.later(0, 0, 60), 1);
            ConfettiMinutes y = Edges.calm("2;1", "5;3", "c0t03");
            c.due("HELD", y.later(0, 0, 1), 11);
            c.due("not FLUNG", y.later(1, 0, 60), 20);
        });
        EDGES.edge(21, "the ROW: how many lie then, how many are HELD.", c -> {
            ConfettiMinutes x = Edges.calm("4", "5;3", "c0t03");
            for (int n = 0; n <= 5; n++) {
                x.later(0, 0, n);
                c.row("in " + n, x, Math.max(0, 4 - n), Math.min(4, n));
            }
        });
        EDGES.edge(21, "NONE: others.", c -> {
            ConfettiMinutes x = Edges.calm("3;1", "5;3", "c0t03");
            x.line();
            int[][] none = {{0, 0, -1}, {0, 0, 61}, {0, 0, LEAST}, {0, 0, MOST}, {-1, 0, 1}, {2, 0, 1}, {MOST, 0, 1},
                {0, -1, 1}, {0, 3, 1}, {1, 1, 1}, {0, LEAST, 1}, {2, 0, 61}};
            for (int[] a : none) {
                c.due("later(" + a[0] + ", " + a[1] + ", " + a[2] + ")", x.later(a[0], a[1], a[2]), -1);
                c.row("that", x, 0, 1);
            }
        });
    }

    private static void when() {
        EDGES.edge(22, "Behind how many DAYS (0: he has .. 60) one has a RIGHT by a LAW first: how many;", c -> {
            ConfettiMinutes has = Edges.calm("3", "0", "c0t00n2");
            c.due("he has", has.when(0, 0), 0);
            c.row("he has", has, 2, 1);
            ConfettiMinutes x = Edges.calm("3", "0", "c0t00");
            c.due("behind two", x.when(0, 0), 2);
            c.row("behind two", x, 2, 1);
            ConfettiMinutes last = slow("4;4;1;4", "c3t30");
            c.due("behind 60", last.when(0, 3), 60);
            c.row("behind 60", last, 3, 1);
        });
        EDGES.edge(22, "the ROW: how many of its BITS he HOLDS then, how many BITS (of all LAWS) lie then.", c -> {
            ConfettiMinutes x = Edges.calm("1;4;4", "0;0", "c0c1c2t00t10t27n1");
            c.due("he has", x.when(0, 0), 0);
            c.row("he has", x, 1, 7);
            c.due("half of it", x.when(1, 1), -2);
            ConfettiMinutes all = Edges.calm("4", "0", "c0t00n4");
            c.due("he has all", all.when(0, 0), 0);
            c.row("he has all", all, 4, 0);
        });
        EDGES.edge(22, "-2: behind none of these;", c -> {
            ConfettiMinutes x = slow("4;4;2;4", "c3t30");
            x.line();
            c.due("behind 61", x.when(0, 3), -2);
            c.row("behind 61", x, 0);
            ConfettiMinutes half = Edges.calm("2", "0;0", "c0t00n1");
            c.due("half", half.when(0, 0), -2);
            c.due("not FLUNG", Check.town("1", "0").when(0, 0), -2);
        });
        EDGES.edge(22, "NONE: none such.", c -> {
            ConfettiMinutes x = Edges.calm("1;1", "0;0", "c0t00n1");
            int[][] none = {{-1, 0}, {2, 0}, {0, -1}, {0, 2}, {LEAST, 0}, {MOST, 0}, {0, LEAST}, {0, MOST}, {5, 5}};
            for (int[] a : none) {
                c.due("when(" + a[0] + ", " + a[1] + ")", x.when(a[0], a[1]), -1);
            }
        });
    }

    private static void clean() {
        EDGES.edge(23, "Behind how many DAYS (0 .. 60) no BIT lies first: how many;", c -> {
            c.due("no LAWS", new ConfettiMinutes().clean(), 0);
            ConfettiMinutes x = Edges.calm("3", "0", "c0");
            c.due("none is FLUNG", x.clean(), 0);
            c.row("none is FLUNG", x, 0);
            x.flings(0, 0);
            c.due("three", x.clean(), 3);
            c.row("three", x, 1);
            x.days(3);
            c.due("all are HELD", x.clean(), 0);
            c.row("all are HELD", x, 1);
            c.due("behind 60", slow("4;4;4", "").clean(), 60);
        });
        EDGES.edge(23, "-2: behind none of these.", c -> {
            ConfettiMinutes x = slow("4;4;4;1", "c3t30");
            x.line();
            c.due("behind 61", x.clean(), -2);
            c.row("behind 61", x, 0);
            c.due("without PEOPLE", flips().clean(), -2);
        });
    }

    private static void drifts() {
        EDGES.edge(24, "How many BITS lie in each STREET in n DAYS (0 .. 60): the most in one;", c -> {
            ConfettiMinutes x = flips();
            c.due("in 0", x.drifts(0), 1);
            c.row("in 0", x, 0, 1, 0, 0, 0, 0, 0, 0, 0);
            c.due("in 59", x.drifts(59), 1);
            c.row("in 59", x, 0, 1, 0, 0, 0, 0, 0, 0, 0);
            c.due("in 60", x.drifts(60), 1);
            c.row("in 60", x, 1, 0, 1, 0, 0, 0, 0, 0, 0);
            ConfettiMinutes y = Edges.calm("4;4;4;4;4", "", "c0c1c2c3c4t07t17t27t37t47");
            c.due("twenty in STREET 7", y.drifts(0), 20);
            c.row("twenty in STREET 7", y, 7, 0, 0, 0, 0, 0, 0, 0, 20);
        });
        EDGES.edge(24, "(of as many the first)", c -> {
            ConfettiMinutes x = Edges.calm("2;2;1", "", "c0c1c2t06t13t20");
            c.due("two and two", x.drifts(0), 2);
            c.row("two and two", x, 3, 1, 0, 0, 2, 0, 0, 2, 0);
            ConfettiMinutes none = new ConfettiMinutes();
            c.due("none", none.drifts(0), 0);
            c.row("none", none, 0, 0, 0, 0, 0, 0, 0, 0, 0);
        });
        EDGES.edge(24, "NONE: another n.", c -> {
            ConfettiMinutes x = flips();
            for (int n : new int[] {-1, 61, LEAST, MOST}) {
                c.due("drifts(" + n + ")", x.drifts(n), -1);
            }
            c.row("those", x, 0, 0);
        });
    }

    private static void aims() {
        EDGES.edge(25, "so that one has a RIGHT by it behind n DAYS (0 .. 30): of such the first;", c -> {
            ConfettiMinutes x = crawls("5", "");
            c.due("behind 30", x.aims(0, 0, 30), 0);
            c.row("behind 30", x, 6);
            c.due("behind 29", x.aims(0, 0, 29), 1);
            c.row("behind 29", x, 5);
            c.due("behind 1", x.aims(0, 0, 1), 5);
            c.row("behind 1", x, 1);
            x.walks(0, 7);
            c.due("in STREET 7", x.aims(0, 0, 1), 7);
            c.row("in STREET 7", x, 1);
            Check.text(x, "9").rule();
            c.due("from all", x.aims(0, 0, 1), 0);
            c.row("from all", x, 8);
        });
        EDGES.edge(25, "a LAW that is not FLUNG (CARRIED or not) is to be FLUNG now", c -> {
            ConfettiMinutes x = crawls("5", "");
            c.due("not CARRIED", x.aims(0, 0, 1), 5);
            c.due("it is not CARRIED by that", x.law(0, 1), 0);
            x.carries(0);
            c.due("CARRIED", x.aims(0, 0, 1), 5);
            c.due("it is not FLUNG by that", x.law(0, 2), 0);
            Check.text(x, "t00s0").wedding();
            c.due("swept up", x.aims(0, 0, 1), 5);
        });
        EDGES.edge(25, "the ROW: from how many of the eight he does.", c -> {
            for (int street = 0; street <= 7; street++) {
                ConfettiMinutes x = Edges.ruled("1", "" + street, "", "");
                for (int n = 1; n <= 8; n++) {
                    int due = street == 7 ? Math.min(8, n + 1) : Math.min(street, n);
                    int first = street == 7 ? 8 - due : street - due;
                    c.due("to " + street + " in " + n, x.aims(0, 0, n), due == 0 ? -2 : first);
                    if (due > 0) {
                        c.row("to " + street + " in " + n, x, due);
                    }
                }
            }
        });
        EDGES.edge(25, "-2: from none;", c -> {
            ConfettiMinutes x = crawls("5", "");
            x.line();
            c.due("no DAY", x.aims(0, 0, 0), -2);
            c.row("no DAY", x, 0);
            ConfettiMinutes y = Check.town("4", "7;7");
            c.due("too few DAYS", y.aims(0, 0, 2), -2);
            c.due("half", y.aims(0, 0, 30), -2);
            c.row("those", y);
        });
    }

    private static void aimsRefused() {
        EDGES.edge(25, "-3: it is FLUNG;", c -> {
            ConfettiMinutes x = Edges.calm("1", "5", "c0t05");
            c.due("it lies", x.aims(0, 0, 1), -3);
            c.due("no DAY", x.aims(0, 0, 0), -3);
            x.days(1);
            c.due("he has a RIGHT", x.aims(0, 0, 1), -3);
            c.row("those", x, 0, 1);
        });
        EDGES.edge(25, "NONE: others.", c -> {
            ConfettiMinutes x = Edges.calm("1;1", "5;5", "c0t05");
            int[][] none = {{1, 0, -1}, {1, 0, 31}, {1, 0, LEAST}, {1, 0, MOST}, {-1, 0, 1}, {2, 0, 1}, {MOST, 0, 1},
                {1, -1, 1}, {1, 2, 1}, {1, LEAST, 1}, {0, 0, 31}, {0, 2, 1}};
            for (int[] a : none) {
                c.due("aims(" + a[0] + ", " + a[1] + ", " + a[2] + ")", x.aims(a[0], a[1], a[2]), -1);
            }
        });
    }

    private static void prays() {
        EDGES.edge(26, "so that one HOLDS the most BITS behind n DAYS (0 .. 30): 10 and it", c -> {
            ConfettiMinutes x = Edges.ruled("1", "5", "(n=1)*(w=2)", "c0t00");
            c.due("behind 30", x.prays(0, 30), 12);
            c.row("behind 30", x, 1, 0);
            c.due("behind 29", x.prays(0, 29), 7);
            c.row("behind 29", x, 0, 0);
            ConfettiMinutes y = Edges.ruled("1", "6;0", "", "c0t03");
            c.due("the strongest up", y.prays(0, 1), 13);
            c.row("the strongest up", y, 1, 0);
            c.due("the strongest down", y.prays(1, 1), 7);
            c.row("the strongest down", y, 1, 0);
            y.wind(3);
            c.due("as it is", y.prays(0, 1), 13);
            c.row("as it is", y, 1, 1);
        });
        EDGES.edge(26, "The WIND (from -3 on) that is to blow from now on", c -> {
            for (int v = -3; v <= 3; v++) {
                ConfettiMinutes x = Edges.ruled("1", "" + (3 + v), "", "c0t03");
                c.due("by " + v, x.prays(0, 1), 10 + v);
                c.row("by " + v, x, 1, v == 1 ? 1 : 0);
                c.due("WIND stays", x.count(2), 11);
            }
        });
        EDGES.edge(26, "(of equal ones the least)", c -> {
            ConfettiMinutes x = Edges.ruled("2", "0;7", "", "c0t01");
            c.due("three bring it", x.prays(0, 1), 7);
            c.row("three bring it", x, 1, 0);
            c.due("none brings it", x.prays(1, 1), 7);
            c.row("none brings it", x, 0, 0);
            Check.text(x, "w-1").rule();
            c.due("no DAY", x.prays(0, 0), 7);
            c.row("no DAY", x, 0, 0);
            ConfettiMinutes y = Edges.ruled("2", "0;7", "", "c0t06");
            c.due("1, 2 and 3 bring it", y.prays(1, 1), 11);
        });
        EDGES.edge(26, "NONE: others.", c -> {
            ConfettiMinutes x = Edges.ruled("1", "5;0", "", "c0t00");
            int[][] none = {{0, -1}, {0, 31}, {0, LEAST}, {0, MOST}, {-1, 1}, {2, 1}, {LEAST, 1}, {MOST, 1}, {2, 31}};
            for (int[] a : none) {
                c.due("prays(" + a[0] + ", " + a[1] + ")", x.prays(a[0], a[1]), -1);
            }
        });
    }

    private static void seeks() {
        EDGES.edge(27, "so that he HOLDS the most BITS behind n DAYS (0 .. 30): it", c -> {
            ConfettiMinutes x = crawls("7", "c0t00");
            c.due("behind 30", x.seeks(0, 30), 5);
            c.row("behind 30", x, 1, 2);
            c.due("behind 29", x.seeks(0, 29), 4);
            c.row("behind 29", x, 1, 3);
            c.due("behind 1", x.seeks(0, 1), 0);
            c.row("behind 1", x, 1, 7);
            c.due("no DAY", x.seeks(0, 0), 7);
            c.row("no DAY", x, 0, 0);
            ConfettiMinutes y = Edges.calm("1", "0", "c0t07");
            c.due("to STREET 7", y.seeks(0, 1), 7);
            c.row("to STREET 7", y, 1, 7);
        });
        EDGES.edge(27, "(of equal ones the least way; then the first STREET)", c -> {
            ConfettiMinutes x = Edges.calm("1;1", "4", "c0c1t06t12");
            c.due("two up, two down", x.seeks(0, 1), 2);
            c.row("two up, two down", x, 1, 2);
            x.walks(0, 5);
            c.due("one up, three down", x.seeks(0, 1), 6);
            c.row("one up, three down", x, 1, 1);
            x.walks(0, 6);
            c.due("he is there", x.seeks(0, 1), 6);
            c.row("he is there", x, 1, 0);
            ConfettiMinutes none = Check.town("1", "4");
            c.due("none lies", none.seeks(0, 30), 4);
            c.row("none lies", none, 0, 0);
        });
        EDGES.edge(27, "NONE: others.", c -> {
            ConfettiMinutes x = Edges.ruled("1", "5;0", "", "c0t00");
            int[][] none = {{0, -1}, {0, 31}, {0, LEAST}, {0, MOST}, {-1, 1}, {2, 1}, {LEAST, 1}, {MOST, 1}, {2, 31}};
            for (int[] a : none) {
                c.due("seeks(" + a[0] + ", " + a[1] + ")", x.seeks(a[0], a[1]), -1);
            }
        });
    }
}
