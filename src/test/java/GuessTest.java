/** Promises 35 to 42 and 44 to 47: which wind it was, which one it was, laws of scattering. */
public final class GuessTest {
    private static final Check CHECK = new Check("GuessTest");

    public static void main(String[] args) {
        seen();
        guess();
        guessAsItIs();
        looks();
        heard();
        fits();
        asks();
        went();
        scatters();
        tries();
        CHECK.end();
    }

    private static void seen() {
        ConfettiMinutes x = Check.town("3;2", "2");
        CHECK.due("not FLUNG", x.seen(0, 0, 0), -2);
        CHECK.wed(x, "c0t02w+0n1w+1");
        CHECK.due("HELD", x.seen(0, 0, 0), -2);
        int[][] none = {{2, 0, 0}, {-1, 0, 0}, {0, 3, 0}, {0, -1, 0}, {0, 1, 8}, {0, 1, -1}, {0, 0, 8}};
        for (int[] a : none) {
            CHECK.due("seen of others", x.seen(a[0], a[1], a[2]), -1);
        }
        for (int n = 1; n <= 10; n++) {
            CHECK.due("seen " + n, x.seen(0, 1, 3), n);
            CHECK.due("count(8)", x.count(8), n);
        }
        CHECK.due("seen an eleventh", x.seen(0, 1, 3), -1);
        CHECK.due("seen an eleventh that does not lie", x.seen(0, 0, 3), -1);
        CHECK.due("forget()", x.forget(), 10);
        CHECK.due("forget()", x.forget(), 0);
        CHECK.due("count(8)", x.count(8), 0);
        CHECK.due("seen", x.seen(0, 1, 7), 1);
        CHECK.due("seen", x.seen(0, 1, 0), 2);
        CHECK.due("it is no deed", x.count(11), 1);
    }

    private static void guess() {
        ConfettiMinutes x = Check.town("3;2", "");
        CHECK.due("nothing seen", x.guess(), 127);
        CHECK.row("nothing seen", x, 7, 1);
        CHECK.wed(x, "c0t02");
        x.seen(0, 1, 0);
        CHECK.due("down to 0", x.guess(), 3);
        CHECK.row("down to 0", x, 2, 0);
        x.wind(-2);
        CHECK.due("down to 0", x.guess(), 3);
        CHECK.row("down to 0, as it is", x, 2, 1);
        Check.text(x, "w+i").rule();
        CHECK.due("by a rule", x.guess(), 1);
        CHECK.row("by a rule", x, 1, 0);
        x.seen(0, 2, 1);
        CHECK.due("both", x.guess(), 1);
        x.seen(0, 2, 2);
        CHECK.due("none", x.guess(), 0);
        CHECK.row("none", x, 0, 0);
        x.forget();
        x.seen(0, 0, 5);
        CHECK.due("the highest wind", x.guess(), 64);
        CHECK.due("WIND stays", x.count(2), 8);
    }

    private static void guessAsItIs() {
        ConfettiMinutes x = Check.town("1;1", "5");
        CHECK.wed(x, "c0c1t04t17");
        x.seen(0, 0, 5);
        CHECK.due("whoever picks it up", x.guess(), 16);
        CHECK.row("whoever picks it up", x, 1, 1);
        x.days(1);
        CHECK.due("it does not lie any more", x.guess(), 0);
        CHECK.row("it does not lie any more", x, 0, 0);
        x.undo();
        x.days(0);
        CHECK.due("it lies", x.guess(), 16);
        Check.text(x, "w+k").rule();
        CHECK.due("alone", x.guess(), 16);
        x.forget();
        CHECK.wed(x, "s1c1t14");
        x.seen(0, 0, 5);
        CHECK.due("two of them", x.guess(), 8);
        x.sweeps(0);
        CHECK.due("swept up", x.guess(), 0);
    }

    private static void looks() {
        ConfettiMinutes x = Check.town("2;3", "");
        CHECK.due("none lies", x.looks(), -2);
        CHECK.wed(x, "c0c1t03t13");
        CHECK.due("all WINDS differ", x.looks(), 0);
        CHECK.row("all WINDS differ", x, 1);
        Check.text(x, "w*l").rule();
        CHECK.due("a BIT of LAW 1", x.looks(), 10);
        CHECK.row("a BIT of LAW 1", x, 1);
        Check.text(x, "w*(i=2)*l").rule();
        CHECK.due("BIT 2 of LAW 1", x.looks(), 12);
        CHECK.row("BIT 2 of LAW 1", x, 1);
        Check.text(x, "0").rule();
        CHECK.due("all are equal", x.looks(), 0);
        CHECK.row("all are equal", x, 7);
        Check.text(x, "w/2*(i+l)").rule();
        CHECK.due("three by 0", x.looks(), 1);
        CHECK.row("three by 0", x, 3);
        Check.text(x, "w*(l-0)").rule();
        x.seen(1, 0, 3);
        CHECK.due("one WIND is left", x.looks(), 0);
        CHECK.row("one WIND is left", x, 1);
        x.seen(1, 0, 4);
        CHECK.due("none is left", x.looks(), -2);
        CHECK.row("none is left", x, 1);
        x.forget();
        Check.text(x, "").rule();
        CHECK.wed(x, "s0c0t00");
        CHECK.due("at the end four go to 0", x.looks(), 10);
        CHECK.row("at the end four go to 0", x, 1);
        x.sweeps(1);
        CHECK.due("at the end four go to 0", x.looks(), 0);
        CHECK.row("at the end four go to 0", x, 4);
    }

    private static void heard() {
        ConfettiMinutes x = Check.town("", "");
        int[][] none = {{0, 8}, {0, -1}, {1, 10}, {1, -1}, {2, 5}, {2, -1}, {3, 5}, {3, -1}, {4, 0}, {-1, 0}};
        for (int[] a : none) {
            CHECK.due("heard of others", x.heard(a[0], a[1]), -1);
        }
        int[][] some = {{0, 0}, {0, 7}, {1, 0}, {1, 9}, {2, 0}, {2, 4}, {3, 0}, {3, 4}, {0, 0}, {0, 0}, {0, 3}, {1, 5}};
        for (int n = 0; n < 12; n++) {
            CHECK.due("heard", x.heard(some[n][0], some[n][1]), n + 1);
            CHECK.due("count(9)", x.count(9), n + 1);
        }
        CHECK.due("heard a thirteenth", x.heard(0, 0), -1);
        CHECK.due("denies()", x.denies(), 12);
        CHECK.due("denies()", x.denies(), 0);
        CHECK.due("count(9)", x.count(9), 0);
    }

    /** 0 HOLDS two BITS of LAW 0 and one of LAW 1, 1 and 2 HOLD one of each; 1 is in STREET 2, 3 in 6. */
    private static ConfettiMinutes shared() {
        ConfettiMinutes x = Check.town("4;3;1", "0;0;0;6");
        CHECK.wed(x, "w+0c0c1t00n2t10p02n1p00p12n1");
        return x;
    }

    private static void fits() {
        ConfettiMinutes x = shared();
        int[][] due = {{0, 0, 5}, {0, 2, 2}, {0, 6, 8}, {0, 7, 0}, {1, 0, 15}, {1, 2, 7}, {1, 3, 1},
            {1, 4, 0}, {2, 0, 7}, {2, 1, 7}, {2, 2, 0}, {2, 4, 0}, {3, 0, 0}, {3, 3, 0}};
        for (int[] a : due) {
            x.denies();
            x.heard(a[0], a[1]);
            CHECK.due("fits() of heard(" + a[0] + ", " + a[1] + ")", x.fits(), a[2]);
            CHECK.row("fits()", x, Integer.bitCount(a[2]));
        }
        x.denies();
        CHECK.due("nothing heard", x.fits(), 15);
        CHECK.row("nothing heard", x, 4);
        x.heard(1, 2);
        x.heard(0, 0);
        CHECK.due("both", x.fits(), 5);
        CHECK.row("both", x, 2);
        x.gives(1, 2, 1);
        x.heard(3, 1);
        CHECK.due("a RIGHT, as it is now", x.fits(), 4);
        CHECK.row("a RIGHT, as it is now", x, 1);
    }

    private static void asks() {
        ConfettiMinutes x = shared();
        CHECK.due("asks()", x.asks(), 0);
        CHECK.row("asks()", x, 2);
        x.heard(1, 1);
        CHECK.due("of three", x.asks(), 0);
        CHECK.row("of three", x, 2);
        x.heard(0, 0);
        CHECK.due("of two in one STREET", x.asks(), 13);
        CHECK.row("of two in one STREET", x, 1);
        x.heard(1, 3);
        CHECK.due("of one", x.asks(), 0);
        CHECK.row("of one", x, 1);
        x.heard(1, 9);
        CHECK.due("none fits", x.asks(), -2);
        CHECK.row("none fits", x, 1);
        ConfettiMinutes y = Check.town("2;2", "0;0");
        CHECK.due("nothing tells them apart", y.asks(), 0);
        CHECK.row("nothing tells them apart", y, 2);
        ConfettiMinutes five = Check.town("", "6;6;6;6;6");
        CHECK.due("nothing tells five apart", five.asks(), 0);
        CHECK.row("nothing tells five apart", five, 5);
        CHECK.wed(y, "w+0c0c1t00n1t10n1g010g101");
        CHECK.due("by a BIT", y.asks(), 20);
        CHECK.row("by a BIT", y, 1);
        ConfettiMinutes z = Check.town("3;3", "0;0");
        CHECK.wed(z, "w+0c0c1t00n1t10n1g010p05n1p00n1");
        CHECK.row("HELD", z, 0, 6);
        CHECK.due("who HOLDS", z.one(0, 2), 1);
        CHECK.due("by how many BITS", z.asks(), 12);
        CHECK.row("by how many BITS", z, 1);
        CHECK.due("no PEOPLE", new ConfettiMinutes().asks(), -2);
    }

    private static void went() {
        ConfettiMinutes x = new ConfettiMinutes();
        int[][] none = {{4, 0, 0}, {-4, 0, 0}, {0, 4, 0}, {0, -1, 0}, {0, 0, 21}, {0, 0, -21}};
        for (int[] a : none) {
            CHECK.due("went of others", x.went(a[0], a[1], a[2]), -1);
        }
        int[][] some = {{3, 0, 0}, {-3, 3, 20}, {0, 0, -20}, {1, 1, 1}, {1, 1, 1}};
        for (int n = 0; n < 10; n++) {
            CHECK.due("went", x.went(some[n % 5][0], some[n % 5][1], some[n % 5][2]), n + 1);
            CHECK.due("count(10)", x.count(10), n + 1);
        }
        CHECK.due("an eleventh", x.went(0, 0, 0), -1);
        CHECK.due("clears()", x.clears(), 10);
        CHECK.due("clears()", x.clears(), 0);
        CHECK.due("count(10)", x.count(10), 0);
    }

    private static void scatters() {
        ConfettiMinutes x = new ConfettiMinutes();
        CHECK.due("all", x.scatters(), 20);
        CHECK.row("all", x, 0, 8);
        x.went(2, 0, 4);
        CHECK.due("a is 2", x.scatters(), 5);
        CHECK.row("a is 2", x, 2, 8);
        x.went(1, 3, -1);
        CHECK.due("b is -1", x.scatters(), 1);
        CHECK.row("b is -1", x, 2, 9);
        x.went(0, 0, 1);
        CHECK.due("none", x.scatters(), 0);
        CHECK.row("none", x);
        x.clears();
        x.went(1, 1, 1);
        CHECK.due("a and b are 1", x.scatters(), 4);
        CHECK.row("a and b are 1", x, 0, 11);
        x.clears();
        x.went(-3, 2, -13);
        CHECK.due("a 3, b -2", x.scatters(), 1);
        CHECK.row("a 3, b -2", x, 3, 8);
    }

    private static void tries() {
        ConfettiMinutes x = new ConfettiMinutes();
        CHECK.due("of all", x.tries(), 1);
        CHECK.row("of all", x, 2);
        x.went(1, 0, 2);
        CHECK.due("a is told", x.tries(), 1);
        CHECK.row("a is told", x, 1);
        x.clears();
        x.went(0, 1, 2);
        CHECK.due("b is told", x.tries(), 0);
        CHECK.row("b is told", x, 1);
        x.went(0, 1, 1);
        CHECK.due("none fits", x.tries(), -2);
        CHECK.row("none fits", x, 1);
        x.clears();
        x.went(-3, 1, -2);
        x.went(-3, 1, -2);
        CHECK.due("two laws: (0, -2), (1, 1)", x.scatters(), 2);
        CHECK.row("two laws", x, 0, 8);
        CHECK.due("another BIT tells them apart", x.tries(), 0);
        CHECK.row("another BIT tells them apart", x, 1);
        x.went(3, 1, -2);
        CHECK.due("one is left", x.scatters(), 1);
        CHECK.row("one is left", x, 0, 8);
    }
}
