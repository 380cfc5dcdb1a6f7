/** Boundary cases that promises 28 to 34 and 43 name: whose bits they are, votes, chances. */
public final class EdgesOfSharesTest {
    private static final Edges EDGES = new Edges("EdgesOfSharesTest");
    private static final int LEAST = Integer.MIN_VALUE;
    private static final int MOST = Integer.MAX_VALUE;

    public static void main(String[] args) {
        whole();
        quorum();
        awards();
        needs();
        line();
        power();
        least();
        odds();
        EDGES.end(28, 29, 30, 31, 32, 33, 34, 43);
    }

    private static void whole() {
        EDGES.edge(28, "The fewest PEOPLE who HOLD all BITS of a LAW together: how many; the ROW: they (bits", c -> {
            ConfettiMinutes x = Edges.calm("4;1", "0;0;0;0;0", "c0c1t00t10n1");
            c.due("each has one of them", x.whole(0), 4);
            c.row("each has one of them", x, 15);
            c.due("the last has it", x.whole(1), 1);
            c.row("the last has it", x, 16);
            Check.text(x, "g040g140g240g340").wedding();
            c.due("the last has them all", x.whole(0), 1);
            c.row("the last has them all", x, 16);
        });
        EDGES.edge(28, "-2: not all are HELD, or it is not FLUNG;", c -> {
            ConfettiMinutes x = Edges.calm("4;1", "0", "c0t00");
            x.line();
            for (int held = 0; held < 4; held++) {
                c.due("HELD are " + held, x.whole(0), -2);
                Check.text(x, "n1").wedding();
            }
            c.due("all are HELD", x.whole(0), 1);
            c.due("not CARRIED", x.whole(1), -2);
            x.carries(1);
            c.due("not FLUNG", x.whole(1), -2);
            x.sweeps(0);
            c.due("swept up", x.whole(0), -2);
            c.row("those", x, 1);
        });
        EDGES.edge(28, "NONE: none such.", c -> {
            ConfettiMinutes x = Edges.calm("1;1", "0", "c0c1t00t10n2");
            for (int law : new int[] {-1, 2, 5, LEAST, MOST}) {
                c.due("whole(" + law + ")", x.whole(law), -1);
            }
        });
    }

    private static void quorum() {
        EDGES.edge(29, "The fewest PEOPLE of whom, of each LAW of which some HOLD something, one does at least", c -> {
            ConfettiMinutes none = new ConfettiMinutes();
            c.due("no LAWS, no PEOPLE", none.quorum(), 0);
            c.row("no LAWS, no PEOPLE", none, 0, 0);
            ConfettiMinutes lie = Edges.calm("1;1", "1", "c0t00");
            c.due("nothing is HELD", lie.quorum(), 0);
            c.row("nothing is HELD", lie, 0, 0);
            ConfettiMinutes five = Edges.calm("1;1;1;1;1", "0;0;0;0;0", "c0c1c2c3c4t00t10t20t30t40n1");
            c.due("each has another LAW", five.quorum(), 5);
            c.row("each has another LAW", five, 31, 5);
            ConfettiMinutes x = Edges.calm("2;2", "0;0;0", "c0c1t00n1g120t10n1g021");
            c.due("one is fewer than two", x.quorum(), 1);
            c.row("one is fewer than two", x, 4, 2);
        });
        EDGES.edge(29, "(bits: of as few the least)", c -> {
            ConfettiMinutes x = Edges.calm("4;4", "1;0;0", "c0t00n1");
            c.due("two have of it", x.quorum(), 1);
            c.row("two have of it", x, 2, 1);
            ConfettiMinutes y = Edges.calm("2;2", "0;0;1;1", "c0c1t00t11n1");
            c.due("four ways", y.quorum(), 2);
            c.row("four ways", y, 5, 2);
        });
    }

    private static void awards() {
        EDGES.edge(30, "Each LAW is awarded to one of PEOPLE, or to nobody, each of these has one LAW at most", c -> {
            ConfettiMinutes none = new ConfettiMinutes();
            c.due("no LAWS", none.awards(), 0);
            c.row("no LAWS", none);
            ConfettiMinutes nobody = Check.town("1;1;1;1;1", "");
            c.due("no PEOPLE", nobody.awards(), 0);
            c.row("no PEOPLE", nobody, -1, -1, -1, -1, -1);
            ConfettiMinutes five = Edges.calm("1;1;1;1;1", "0;0;0;0;0", "c0c1c2c3c4t00t10t20t30t40n1");
            c.due("all", five.awards(), 5);
            c.row("all", five, 0, 1, 2, 3, 4);
            ConfettiMinutes all = Edges.calm("1;4", "0", "c0c1t00t10n5");
            c.due("one has all of both", all.awards(), 4);
            c.row("one has all of both", all, -1, 0);
            ConfettiMinutes last = Edges.calm("1;1;1;1;1", "1;1;1;1;0", "c0c1c2c3c4t00t10t20t30t40n5");
            c.due("the last has all of five", last.awards(), 1);
            c.row("the last has all of five", last, -1, -1, -1, -1, 4);
            ConfettiMinutes more = Edges.calm("4;1", "0;0", "c0c1t00n2t10p07n1");
            c.due("one has more of a LAW that is awarded already", more.awards(), 3);
            c.row("one has more of a LAW that is awarded already", more, 0, 1);
            ConfettiMinutes two = Edges.calm("2;2;1", "1;0;0", "c0c1c2t00t10n2t20n1");
            c.due("two have of two, one of them of three", two.awards(), 2);
            c.row("two have of two, one of them of three", two, -1, 2, 1);
            two.gives(1, 0, 2);
            c.due("a third has the third", two.awards(), 3);
            c.row("a third has the third", two, 1, 2, 0);
        });
        EDGES.edge(30, "(-1: nobody; of as many the least row)", c -> {
            ConfettiMinutes x = Edges.calm("1;1", "0;1", "c0c1t00t10n2");
            c.due("nobody is less than one", x.awards(), 1);
            c.row("nobody is less than one", x, -1, 0);
            ConfettiMinutes y = Edges.calm("2;2", "0;0", "c0c1t00n1t10n1");
            c.due("either way", y.awards(), 2);
            c.row("either way", y, 0, 1);
            ConfettiMinutes z = Edges.calm("1;1", "0;0", "c1t10n1");
            c.due("a LAW that nobody HOLDS", z.awards(), 1);
            c.row("a LAW that nobody HOLDS", z, -1, 0);
        });
    }

    private static void needs() {
        EDGES.edge(31, "The fewest BITS that are HELD by others to be given to one so that he has a RIGHT", c -> {
            for (int bits = 1; bits <= 4; bits++) {
                ConfettiMinutes x = Edges.calm(String.valueOf(bits), "0;7", "c0t00n4");
                c.due("he has all of " + bits, x.needs(0, 0), 0);
                c.row("he has all of " + bits, x, bits);
                c.due("the other one has all of " + bits, x.needs(1, 0), bits / 2 + 1);
                c.row("the other one has all of " + bits, x, 0);
            }
            ConfettiMinutes half = Edges.calm("4", "0;0", "c0t00n2");
            c.due("half", half.needs(0, 0), 1);
            c.row("half", half, 2);
            ConfettiMinutes rest = Edges.calm("3", "0", "c0t00n2");
            c.due("he has a RIGHT, the rest lies", rest.needs(0, 0), 0);
            c.row("he has a RIGHT, the rest lies", rest, 2);
        });
        EDGES.edge(31, "-2: it is not FLUNG, or by none (too many lie);", c -> {
            ConfettiMinutes x = Edges.calm("4;1", "0;0;7", "c0t00");
            x.line();
            c.due("not CARRIED", x.needs(0, 1), -2);
            x.carries(1);
            c.due("not FLUNG", x.needs(0, 1), -2);
            c.due("all lie", x.needs(0, 0), -2);
            c.row("those", x, 0, 1, 2);
            Check.text(x, "n1").wedding();
            c.due("two lie, he has one", x.needs(0, 0), -2);
            c.due("two lie, he has none", x.needs(2, 0), -2);
            Check.text(x, "p17n1").wedding();
            c.due("one lies, he has two", x.needs(0, 0), 1);
            c.due("one lies, he has none", x.needs(2, 0), 3);
            Check.text(x, "l1").wedding();
            c.due("two lie, he has two, no other one has one", x.needs(0, 0), -2);
        });
        EDGES.edge(31, "NONE: none such.", c -> {
            ConfettiMinutes x = Edges.calm("1;1", "0;0", "c0t00n1");
            int[][] none = {{-1, 0}, {2, 0}, {0, -1}, {0, 2}, {LEAST, 0}, {MOST, 0}, {0, LEAST}, {0, MOST}, {5, 5}};
            for (int[] a : none) {
                c.due("needs(" + a[0] + ", " + a[1] + ")", x.needs(a[0], a[1]), -1);
            }
        });
    }

    private static void line() {
        EDGES.edge(32, "PEOPLE by how many BITS they HOLD, the most first (of like ones by their numbers): how many;", c -> {
            ConfettiMinutes none = new ConfettiMinutes();
            none.days(0);
            c.due("no PEOPLE", none.line(), 0);
            c.row("no PEOPLE", none);
            ConfettiMinutes x = Edges.calm("4;4;2", "0;0;0;0;0", "");
            c.due("all alike", x.line(), 5);
            c.row("all alike", x, 0, 1, 2, 3, 4);
            Check.text(x, "c0c1c2t00t10t20n2").wedding();
            c.due("all have two", x.line(), 5);
            c.row("all have two", x, 0, 1, 2, 3, 4);
            Check.text(x, "g040").wedding();
            c.due("the last has the most", x.line(), 5);
            c.row("the last has the most", x, 4, 1, 2, 3, 0);
        });
    }

    private static void power() {
        EDGES.edge(33, "Of all sets of the others, the empty one, too, how many do not carry it, but do with one", c -> {
            ConfettiMinutes alone = Edges.calm("1", "0", "c0t00n1");
            c.due("one alone", alone.power(0), 0);
            c.row("one alone", alone, 1, 1);
            ConfettiMinutes half = Edges.calm("2", "0;0", "c0t00n1");
            c.due("half", half.power(0), 0);
            c.row("half", half, 1, 2);
            ConfettiMinutes more = Edges.calm("3", "0;0", "c0t00n2");
            c.due("more than half", more.power(0), 0);
            c.row("more than half", more, 1, 1);
            c.due("less than half", more.power(1), 0);
            c.row("less than half", more, 0, 1);
            ConfettiMinutes five = Edges.calm("4;2", "0;0;0;0;0", "c0c1t00t10n2");
            c.due("2 of 6", five.power(0), 0);
            c.row("2 of 6", five, 5, 8);
            c.due("1 of 6", five.power(4), 0);
            c.row("1 of 6", five, 1, 4);
            ConfettiMinutes none = Check.town("1", "0;0");
            c.due("nothing is HELD", none.power(1), 0);
            c.row("nothing is HELD", none, 0, 1);
        });
        EDGES.edge(33, "NONE: none such.", c -> {
            ConfettiMinutes x = Edges.calm("1", "0;0", "c0t00n1");
            for (int one : new int[] {-1, 2, 5, 32, LEAST, MOST}) {
                c.due("power(" + one + ")", x.power(one), -1);
            }
            c.due("without PEOPLE", new ConfettiMinutes().power(0), -1);
        });
    }

    private static void least() {
        EDGES.edge(34, "Sets of PEOPLE that carry it, but none of whom could be left out: how many;", c -> {
            ConfettiMinutes half = Edges.calm("2", "0;0", "c0t00n1");
            c.due("half does not carry it", half.least(), 1);
            c.row("half does not carry it", half, 3);
            ConfettiMinutes one = Edges.calm("1", "1;0", "c0t00n1");
            c.due("one without could be left out", one.least(), 1);
            c.row("one without could be left out", one, 2);
            ConfettiMinutes five = Edges.calm("4;1", "0;0;0;0;0", "c0c1t00t10n1");
            c.due("three of five", five.least(), 10);
            c.row("three of five", five, 7);
        });
        EDGES.edge(34, "the ROW: the least (bits; nothing without).", c -> {
            ConfettiMinutes x = Edges.calm("1", "0;0", "c0t05");
            c.due("nothing is HELD", x.least(), 0);
            c.row("nothing is HELD", x);
            ConfettiMinutes none = new ConfettiMinutes();
            none.days(0);
            c.due("no PEOPLE", none.least(), 0);
            c.row("no PEOPLE", none);
        });
    }

    private static void odds() {
        EDGES.edge(43, "Each BIT that one HOLDS is lost by p tenths (0 .. 10), each by itself", c -> {
            ConfettiMinutes x = Edges.calm("4;3;1;2", "0;7", "c0t00n3");
            c.due("none is lost", x.odds(0, 0, 0), 0);
            c.row("none is lost", x, 1, 1);
            c.due("all are lost", x.odds(0, 0, 10), 0);
            c.row("all are lost", x, 0, 1);
            c.due("by a tenth, three of four", x.odds(0, 0, 1), 0);
            c.row("by a tenth, three of four", x, 729, 1000);
            c.due("by nine tenths", x.odds(0, 0, 9), 0);
            c.row("by nine tenths", x, 1, 1000);
            x.days(1);
            c.due("by a tenth, four of four", x.odds(0, 0, 1), 0);
            c.row("by a tenth, four of four", x, 9477, 10000);
        });
        EDGES.edge(43, "how likely he has a RIGHT by a LAW then: 0; the ROW: the fraction.", c -> {
            ConfettiMinutes x = Edges.calm("4;2;1", "0;0", "c0c2t00t27n2");
            c.due("half, none is lost", x.odds(0, 0, 0), 0);
            c.row("half, none is lost", x, 0, 1);
            c.due("not FLUNG", x.odds(0, 1, 0), 0);
            c.row("not FLUNG", x, 0, 1);
            c.due("he has none", x.odds(0, 2, 0), 0);
            c.row("he has none", x, 0, 1);
            Check.text(x, "p07n1").wedding();
            c.due("one of one", x.odds(0, 2, 10), 0);
            c.row("one of one", x, 0, 1);
            c.due("one of one, by a tenth", x.odds(0, 2, 1), 0);
            c.row("one of one, by a tenth", x, 9, 10);
        });
        EDGES.edge(43, "NONE: others.", c -> {
            ConfettiMinutes x = Edges.calm("1;1", "0;0", "c0t00n1");
            x.line();
            int[][] none = {{0, 0, -1}, {0, 0, 11}, {0, 0, LEAST}, {0, 0, MOST}, {-1, 0, 1}, {2, 0, 1}, {MOST, 0, 1},
                {0, -1, 1}, {0, 2, 1}, {0, LEAST, 1}};
            for (int[] a : none) {
                c.due("odds(" + a[0] + ", " + a[1] + ", " + a[2] + ")", x.odds(a[0], a[1], a[2]), -1);
                c.row("that", x, 0, 1);
            }
        });
    }
}
