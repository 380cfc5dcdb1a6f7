/** Boundary cases that promises 35 to 42 and 44 to 47 name: which wind, which one it was, laws of scattering. */
public final class EdgesOfGuessesTest {
    private static final Edges EDGES = new Edges("EdgesOfGuessesTest");
    private static final int LEAST = Integer.MIN_VALUE;
    private static final int MOST = Integer.MAX_VALUE;

    public static void main(String[] args) {
        seen();
        forget();
        guess();
        looks();
        heard();
        heardRefused();
        denies();
        fits();
        asks();
        went();
        clears();
        scatters();
        tries();
        EDGES.end(35, 36, 37, 38, 39, 40, 41, 42, 44, 45, 46, 47);
    }

    /** BITS that lie in STREET 3, blown by WIND alone. */
    private static ConfettiMinutes lying(String laws, String people) {
        return Edges.ruled(laws, people, "", "c0t03");
    }

    private static void seen() {
        EDGES.edge(35, "would lie in a STREET (0 .. 7) behind (1) of the next DAY (whoever picks it up)", c -> {
            ConfettiMinutes x = lying("2", "4");
            c.due("STREET 0", x.seen(0, 0, 0), 1);
            c.due("STREET 7", x.seen(0, 1, 7), 2);
            c.due("the same once more", x.seen(0, 1, 7), 3);
            x.forget();
            x.seen(0, 0, 4);
            c.due("one would pick it up there", x.guess(), 16);
        });
        EDGES.edge(35, "-2: it does not lie;", c -> {
            ConfettiMinutes x = Edges.calm("2;1;1", "3", "c0t03n1c1");
            c.due("HELD", x.seen(0, 0, 3), -2);
            c.due("CARRIED", x.seen(1, 0, 3), -2);
            c.due("not CARRIED", x.seen(2, 0, 3), -2);
            c.due("it lies", x.seen(0, 1, 3), 1);
            x.sweeps(0);
            c.due("swept up", x.seen(0, 1, 3), -2);
            c.due("what was seen", x.count(8), 1);
        });
        EDGES.edge(35, "refused: others, 10.", c -> {
            ConfettiMinutes x = lying("2;1", "4");
            int[][] none = {{-1, 0, 3}, {2, 0, 3}, {LEAST, 0, 3}, {MOST, 0, 3}, {0, -1, 3}, {0, 2, 3}, {0, LEAST, 3},
                {0, MOST, 3}, {0, 0, -1}, {0, 0, 8}, {0, 0, LEAST}, {0, 0, MOST}, {1, 1, 3}, {1, 0, 8}};
            for (int[] a : none) {
                c.due("seen(" + a[0] + ", " + a[1] + ", " + a[2] + ")", x.seen(a[0], a[1], a[2]), -1);
            }
            for (int n = 1; n <= 10; n++) {
                c.due("seen " + n, x.seen(0, 0, 3), n);
            }
            c.due("an eleventh", x.seen(0, 0, 3), -1);
            c.due("an eleventh that does not lie", x.seen(1, 0, 3), -1);
            c.due("what was seen", x.count(8), 10);
        });
    }

    private static void forget() {
        EDGES.edge(36, "It is forgotten: how many there were.", c -> {
            ConfettiMinutes x = lying("2", "");
            c.due("none", x.forget(), 0);
            for (int n = 1; n <= 10; n++) {
                x.seen(0, 0, 7);
            }
            c.due("ten", x.forget(), 10);
            c.due("none is left", x.forget(), 0);
            c.due("what was seen", x.count(8), 0);
            c.due("all WINDS fit", x.guess(), 127);
            c.due("it is seen again", x.seen(0, 0, 3), 1);
        });
    }

    private static void guess() {
        EDGES.edge(37, "WINDS (bits: bit 3 and it) that fit all that was seen", c -> {
            ConfettiMinutes x = lying("2", "");
            c.due("nothing was seen", x.guess(), 127);
            c.row("nothing was seen", x, 7, 1);
            int[] due = {1, 2, 4, 8, 16, 32, 64, 0};
            for (int street = 0; street <= 7; street++) {
                x.seen(0, 0, street);
                c.due("seen in " + street, x.guess(), due[street]);
                c.row("seen in " + street, x, street == 7 ? 0 : 1, street == 4 ? 1 : 0);
                x.forget();
            }
            ConfettiMinutes low = Edges.ruled("1", "", "", "c0t00");
            low.seen(0, 0, 0);
            c.due("-3 to 0 lead to 0", low.guess(), 15);
            c.row("-3 to 0 lead to 0", low, 4, 0);
            ConfettiMinutes high = Edges.ruled("1", "", "", "c0t07");
            high.seen(0, 0, 7);
            c.due("0 to 3 lead to 7", high.guess(), 120);
            c.row("0 to 3 lead to 7", high, 4, 1);
        });
        EDGES.edge(35, "It was seen that a BIT that lies now", c -> {
            ConfettiMinutes x = Edges.ruled("4;1;3", "", "w*(i+1)+l", "c0c1c2t00t15t22");
            int[][] due = {{0, 3, 4, 16}, {0, 1, 2, 16}, {1, 0, 3, 1}, {2, 0, 2, 2}, {2, 0, 5, 16}, {2, 1, 6, 16}, {2, 2, 1, 4}};
            for (int[] a : due) {
                x.seen(a[0], a[1], a[2]);
                c.due("BIT " + a[1] + " of LAW " + a[0] + " in " + a[2], x.guess(), a[3]);
                x.forget();
            }
        });
        EDGES.edge(37, "(a BIT that does not lie any more fits none)", c -> {
            ConfettiMinutes x = lying("2", "4");
            x.seen(0, 0, 4);
            c.due("it lies", x.guess(), 16);
            x.days(1);
            c.due("it is HELD", x.guess(), 0);
            c.row("it is HELD", x, 0, 0);
            x.undo();
            c.due("it lies again", x.guess(), 16);
            x.sweeps(0);
            c.due("it is swept up", x.guess(), 0);
            Check.text(x, "c0t04").wedding();
            c.due("it lies again, elsewhere", x.guess(), 8);
        });
        EDGES.edge(37, "the ROW: how many, 1 if WIND as it is does, else 0.", c -> {
            ConfettiMinutes x = lying("1", "");
            x.seen(0, 0, 0);
            for (int v = -3; v <= 3; v++) {
                x.wind(v);
                x.guess();
                c.row("WIND " + v, x, 1, v == -3 ? 1 : 0);
            }
        });
    }

    private static void looks() {
        EDGES.edge(38, "10 times its LAW and its number, of equal ones the least;", c -> {
            ConfettiMinutes x = Edges.ruled("1;1;1;1;4", "", "w*(i=3)", "c0c4t03t43");
            c.due("the last of all", x.looks(), 43);
            c.row("the last of all", x, 1);
            Check.text(x, "").rule();
            c.due("all are equal", x.looks(), 0);
            c.row("all are equal", x, 1);
            Check.text(x, "0").rule();
            c.due("none tells", x.looks(), 0);
            c.row("none tells", x, 7);
            x.sweeps(0);
            c.due("the first that lies", x.looks(), 40);
            c.row("the first that lies", x, 7);
        });
        EDGES.edge(38, "so that, wherever it would, the fewest of these WINDS are left at most", c -> {
            ConfettiMinutes x = Edges.ruled("1;1;1", "", "", "c0c1c2t00t11t22");
            c.due("one that four WINDS, three, two blow to 0", x.looks(), 20);
            c.row("two are left at most", x, 2);
            x.sweeps(2);
            c.due("one that four WINDS, three blow to 0", x.looks(), 10);
            c.row("three are left at most", x, 3);
            x.sweeps(1);
            c.due("one alone", x.looks(), 0);
            c.row("four are left at most", x, 4);
            x.seen(0, 0, 0);
            c.due("of those that are left", x.looks(), 0);
            c.row("of those that are left", x, 4);
            x.forget();
            x.seen(0, 0, 3);
            c.due("of one that is left", x.looks(), 0);
            c.row("of one that is left", x, 1);
        });
        EDGES.edge(38, "-2: none is left, or none lies.", c -> {
            ConfettiMinutes x = Edges.calm("2;1", "3", "c0");
            x.line();
            c.due("none is FLUNG", x.looks(), -2);
            Check.text(x, "t03").wedding();
            x.line();
            x.seen(0, 0, 7);
            c.due("no WIND is left", x.looks(), -2);
            c.row("no WIND is left", x, 0);
            x.forget();
            c.due("it lies", x.looks(), 0);
            x.days(2);
            c.due("all are HELD", x.looks(), -2);
            c.row("all are HELD", x, 0, 1);
        });
    }

    private static void heard() {
        EDGES.edge(39, "what 0: STREET is v (0 .. 7);", c -> {
            ConfettiMinutes x = Check.town("", "0;7");
            c.due("0", x.heard(0, 0), 1);
            c.due("fits", x.fits(), 1);
            x.denies();
            c.due("7", x.heard(0, 7), 1);
            c.due("fits", x.fits(), 2);
            c.due("-1", x.heard(0, -1), -1);
            c.due("8", x.heard(0, 8), -1);
        });
        EDGES.edge(39, "1: he HOLDS v (0 .. 9) BITS or more;", c -> {
            ConfettiMinutes x = Edges.calm("4;4;4;4;4", "0;0", "c0c1c2c3c4t00t10t20t30t40n8p17n1");
            c.due("0", x.heard(1, 0), 1);
            c.due("fits", x.fits(), 3);
            c.due("8", x.heard(1, 8), 2);
            c.due("fits, who HOLDS just so many", x.fits(), 3);
            c.due("9", x.heard(1, 9), 3);
            c.due("fits, who HOLDS one more", x.fits(), 1);
            c.due("-1", x.heard(1, -1), -1);
            c.due("10", x.heard(1, 10), -1);
        });
        EDGES.edge(39, "2: he HOLDS a BIT of LAW v (0 .. 4);", c -> {
            ConfettiMinutes x = Edges.calm("1;1;1;1;4", "1;0", "c4t40n1");
            c.due("4", x.heard(2, 4), 1);
            c.due("fits", x.fits(), 2);
            c.due("0", x.heard(2, 0), 2);
            c.due("fits", x.fits(), 0);
            c.due("-1", x.heard(2, -1), -1);
            c.due("5", x.heard(2, 5), -1);
            c.due("of a LAW that is not there", Check.town("", "0").heard(2, 4), 1);
        });
        EDGES.edge(39, "3: he has a RIGHT by LAW v (0 .. 4)", c -> {
            ConfettiMinutes x = Edges.calm("1;1;1;1;4", "1;0", "c4t40n2");
            x.heard(3, 4);
            c.due("half", x.fits(), 0);
            x.days(1);
            c.due("more than half", x.fits(), 2);
            c.due("0", x.heard(3, 0), 2);
            c.due("fits", x.fits(), 0);
            c.due("-1", x.heard(3, -1), -1);
            c.due("5", x.heard(3, 5), -1);
            ConfettiMinutes none = Check.town("", "0");
            c.due("by a LAW that is not there", none.heard(3, 0), 1);
            c.due("fits", none.fits(), 0);
        });
    }

    private static void heardRefused() {
        EDGES.edge(39, "Refused: others, 12.", c -> {
            ConfettiMinutes x = Check.town("", "0");
            int[][] none = {{-1, 0}, {4, 0}, {LEAST, 0}, {MOST, 0}, {0, LEAST}, {0, MOST}, {1, LEAST}, {1, MOST},
                {2, LEAST}, {2, MOST}, {3, LEAST}, {3, MOST}};
            for (int[] a : none) {
                c.due("heard(" + a[0] + ", " + a[1] + ")", x.heard(a[0], a[1]), -1);
            }
            for (int n = 1; n <= 12; n++) {
                c.due("heard " + n, x.heard(0, 0), n);
            }
            c.due("a thirteenth", x.heard(0, 0), -1);
            c.due("a thirteenth by which nobody would fit", x.heard(0, 5), -1);
            c.due("what was heard", x.count(9), 12);
            c.due("fits", x.fits(), 1);
        });
    }

    private static void denies() {
        EDGES.edge(40, "It is denied: how many there were.", c -> {
            ConfettiMinutes x = Check.town("", "0");
            c.due("none", x.denies(), 0);
            for (int n = 1; n <= 12; n++) {
                x.heard(0, 5);
            }
            c.due("twelve", x.denies(), 12);
            c.due("none is left", x.denies(), 0);
            c.due("what was heard", x.count(9), 0);
            c.due("all fit", x.fits(), 1);
            c.due("it is heard again", x.heard(0, 5), 1);
        });
    }

    private static void fits() {
        EDGES.edge(41, "PEOPLE (bits) that fit all that was heard; the ROW: how many.", c -> {
            ConfettiMinutes none = new ConfettiMinutes();
            c.due("no PEOPLE", none.fits(), 0);
            c.row("no PEOPLE", none, 0);
            ConfettiMinutes x = Check.town("", "0;1;2;3;0");
            c.due("nothing was heard", x.fits(), 31);
            c.row("nothing was heard", x, 5);
            x.heard(0, 0);
            c.due("the first and the last", x.fits(), 17);
            c.row("the first and the last", x, 2);
            x.heard(0, 1);
            c.due("nobody is in two STREETS", x.fits(), 0);
            c.row("nobody is in two STREETS", x, 0);
        });
    }

    /** Two that are alike, but that the first has a RIGHT by LAW 4. */
    private static ConfettiMinutes alike() {
        return Edges.calm("1;1;1;4;3", "0;0", "c3c4t30n1p07n1p05p15t45n1p16n1p15");
    }

    private static void asks() {
        EDGES.edge(42, "10 times what and v, as they may be heard, of equal ones the least;", c -> {
            ConfettiMinutes one = Check.town("", "5");
            c.due("of one", one.asks(), 0);
            c.row("of one", one, 1);
            ConfettiMinutes five = Check.town("", "7;7;7;7;7");
            c.due("nothing tells five apart", five.asks(), 0);
            c.row("nothing tells five apart", five, 5);
            c.due("the last that may be asked", alike().asks(), 34);
            ConfettiMinutes bit = Edges.calm("1;1", "0;0", "c0c1t00t10n1");
            c.due("he HOLDS a BIT of LAW 0", bit.asks(), 20);
            c.row("he HOLDS a BIT of LAW 0", bit, 1);
            ConfettiMinutes right = Edges.calm("3;4", "0;0", "c1t10n1p07n1p05p15c0t05n1p16n1p15");
            c.due("he has a RIGHT by LAW 0", right.asks(), 30);
            c.row("he has a RIGHT by LAW 0", right, 1);
            ConfettiMinutes street = Check.town("", "7;6");
            c.due("STREET 6 is less than 7", street.asks(), 6);
            c.row("STREET 6 is less than 7", street, 1);
            ConfettiMinutes nine = Edges.calm("4;4;4;4;4", "0;0", "c0c1c2c3c4t00t10t20t30t40n8p17n1p10");
            c.due("he HOLDS 9 or more", nine.asks(), 19);
            c.row("he HOLDS 9 or more", nine, 1);
        });
        EDGES.edge(42, "so that, it is so or not, the fewest such PEOPLE are left at most", c -> {
            ConfettiMinutes x = Check.town("", "0;1;2;2;2");
            c.due("two and three", x.asks(), 2);
            c.row("two and three", x, 3);
            ConfettiMinutes y = Check.town("", "3;3;3;3;1");
            c.due("one and four", y.asks(), 1);
            c.row("one and four", y, 4);
            y.heard(0, 3);
            c.due("of such alone", y.asks(), 0);
            c.row("of such alone", y, 4);
        });
        EDGES.edge(42, "-2: none fits.", c -> {
            ConfettiMinutes none = new ConfettiMinutes();
            none.days(0);
            c.due("no PEOPLE", none.asks(), -2);
            c.row("no PEOPLE", none, 0, 0);
            ConfettiMinutes x = Check.town("", "7;6");
            x.heard(0, 5);
            c.due("nobody", x.asks(), -2);
            x.denies();
            for (int n = 1; n <= 12; n++) {
                x.heard(0, 7);
            }
            c.due("one fits twelve", x.asks(), 0);
            c.row("one fits twelve", x, 1);
        });
    }

    private static void went() {
        EDGES.edge(44, "by a WIND w (-3 .. 3)", c -> {
            ConfettiMinutes x = new ConfettiMinutes();
            c.due("-3", x.went(-3, 0, 0), 1);
            c.due("3", x.went(3, 0, 0), 2);
            c.due("-4", x.went(-4, 0, 0), -1);
            c.due("4", x.went(4, 0, 0), -1);
            c.due("the least int", x.went(LEAST, 0, 0), -1);
            c.due("the most int", x.went(MOST, 0, 0), -1);
        });
        EDGES.edge(44, "BIT i (0 .. 3)", c -> {
            ConfettiMinutes x = new ConfettiMinutes();
            c.due("0", x.went(0, 0, 0), 1);
            c.due("3", x.went(0, 3, 0), 2);
            c.due("-1", x.went(0, -1, 0), -1);
            c.due("4", x.went(0, 4, 0), -1);
            c.due("the least int", x.went(0, LEAST, 0), -1);
            c.due("the most int", x.went(0, MOST, 0), -1);
        });
        EDGES.edge(44, "went v (-20 .. 20) STREETS: how many such.", c -> {
            ConfettiMinutes x = new ConfettiMinutes();
            c.due("-20", x.went(0, 0, -20), 1);
            c.due("20", x.went(0, 0, 20), 2);
            c.due("-21", x.went(0, 0, -21), -1);
            c.due("21", x.went(0, 0, 21), -1);
            c.due("the least int", x.went(0, 0, LEAST), -1);
            c.due("the most int", x.went(0, 0, MOST), -1);
        });
        EDGES.edge(44, "Refused: others, 10.", c -> {
            ConfettiMinutes x = new ConfettiMinutes();
            for (int n = 1; n <= 10; n++) {
                c.due("told " + n, x.went(1, 0, 2), n);
            }
            c.due("an eleventh", x.went(1, 0, 2), -1);
            c.due("an eleventh by which none would fit", x.went(0, 0, 5), -1);
            c.due("what was told", x.count(10), 10);
            c.due("laws that fit", x.scatters(), 5);
        });
    }

    private static void clears() {
        EDGES.edge(45, "That is forgotten: how many there were.", c -> {
            ConfettiMinutes x = new ConfettiMinutes();
            c.due("none", x.clears(), 0);
            for (int n = 1; n <= 10; n++) {
                x.went(0, 0, 20);
            }
            c.due("ten", x.clears(), 10);
            c.due("none is left", x.clears(), 0);
            c.due("what was told", x.count(10), 0);
            c.due("all fit", x.scatters(), 20);
            c.due("it is told again", x.went(0, 0, 20), 1);
        });
    }

    private static void scatters() {
        EDGES.edge(46, "Laws (20 of them) that fit all that was told so: how many; the ROW: the least a, 10 and b", c -> {
            ConfettiMinutes x = new ConfettiMinutes();
            c.due("all", x.scatters(), 20);
            c.row("all", x, 0, 8);
            for (int a = 0; a <= 3; a++) {
                for (int b = -2; b <= 2; b++) {
                    x.clears();
                    x.went(1, 0, a);
                    x.went(0, 1, b);
                    c.due("one is left", x.scatters(), 1);
                    c.row("one is left", x, a, 10 + b);
                }
            }
            x.clears();
            x.went(-3, 3, -15);
            c.due("the farthest down", x.scatters(), 1);
            c.row("the farthest down", x, 3, 8);
            x.clears();
            x.went(3, 3, 15);
            c.due("the farthest up", x.scatters(), 1);
            c.row("the farthest up", x, 3, 12);
        });
        EDGES.edge(46, "(nothing without)", c -> {
            ConfettiMinutes x = new ConfettiMinutes();
            x.scatters();
            x.went(1, 0, 4);
            c.due("a would be 4", x.scatters(), 0);
            c.row("a would be 4", x);
            x.clears();
            x.went(1, 0, -1);
            c.due("a would be -1", x.scatters(), 0);
            x.clears();
            x.went(0, 1, 3);
            c.due("b would be 3", x.scatters(), 0);
            x.clears();
            x.went(0, 1, -3);
            c.due("b would be -3", x.scatters(), 0);
            x.clears();
            x.went(0, 0, 1);
            c.due("none goes", x.scatters(), 0);
            c.row("none goes", x);
        });
    }

    private static void tries() {
        EDGES.edge(47, "10 times 3 and WIND, and the BIT (0 .. 3), of equal ones the least;", c -> {
            ConfettiMinutes x = new ConfettiMinutes();
            c.due("of all", x.tries(), 1);
            c.row("of all", x, 2);
            x.went(1, 0, 3);
            x.went(0, 1, 2);
            c.due("one is left", x.tries(), 0);
            c.row("one is left", x, 1);
            for (int law = 0; law < 20; law++) {
                x.clears();
                x.went(1, 0, law / 5);
                x.went(0, 1, law % 5 - 2);
                c.due("law " + law + " alone is left", x.tries(), 0);
                c.row("law " + law + " alone is left", x, 1);
            }
            x.clears();
            x.went(0, 1, 2);
            c.due("a tells", x.tries(), 0);
            c.row("a tells", x, 1);
            x.clears();
            x.went(1, 0, 2);
            c.due("b tells", x.tries(), 1);
            c.row("b tells", x, 1);
        });
        EDGES.edge(47, "-2: none fits.", c -> {
            ConfettiMinutes x = new ConfettiMinutes();
            x.tries();
            x.went(0, 0, 1);
            c.due("none", x.tries(), -2);
            c.row("none", x, 2);
            x.clears();
            for (int n = 1; n <= 10; n++) {
                x.went(0, 0, 0);
            }
            c.due("all fit ten", x.tries(), 1);
        });
    }
}
