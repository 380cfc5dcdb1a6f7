/** Boundary cases that promises 11 to 18 name: what is done. */
public final class EdgesOfDeedsTest {
    private static final Edges EDGES = new Edges("EdgesOfDeedsTest");
    private static final int LEAST = Integer.MIN_VALUE;
    private static final int MOST = Integer.MAX_VALUE;

    public static void main(String[] args) {
        carries();
        flings();
        sweeps();
        days();
        walks();
        gives();
        falls();
        wind();
        EDGES.end(11, 12, 13, 14, 15, 16, 17, 18);
    }

    private static void carries() {
        EDGES.edge(11, "A LAW is CARRIED: how many are.", c -> {
            ConfettiMinutes x = Check.town("1;1;1;1;1", "");
            c.due("the last first", x.carries(4), 1);
            c.due("the first", x.carries(0), 2);
            x.carries(1);
            x.carries(2);
            c.due("all", x.carries(3), 5);
        });
        EDGES.edge(11, "-2: it is already;", c -> {
            ConfettiMinutes x = Check.town("1;1", "");
            x.carries(0);
            c.due("CARRIED", x.carries(0), -2);
            x.flings(0, 0);
            c.due("FLUNG", x.carries(0), -2);
            x.sweeps(0);
            c.due("swept up it is not", x.carries(0), 1);
            c.due("deeds", x.count(11), 4);
        });
        EDGES.edge(11, "NONE: none such.", c -> {
            ConfettiMinutes x = Check.town("1;1", "");
            for (int law : new int[] {-1, 2, 5, 32, 33, LEAST, MOST}) {
                c.due("carries(" + law + ")", x.carries(law), -1);
            }
            c.due("CARRIED", x.count(4), 0);
            c.due("deeds", x.count(11), 0);
            c.due("without LAWS", new ConfettiMinutes().carries(0), -1);
        });
    }

    private static void flings() {
        EDGES.edge(12, "is FLUNG in a STREET (0 .. 7): all its BITS lie there: how many.", c -> {
            ConfettiMinutes x = Check.town("1;4", "");
            Check.text(x, "c0c1").wedding();
            c.due("the fewest, in STREET 0", x.flings(0, 0), 1);
            c.due("the most, in STREET 7", x.flings(1, 7), 4);
            c.due("lies", x.bit(0, 0), 0);
            for (int bit = 0; bit < 4; bit++) {
                c.due("BIT " + bit, x.bit(1, bit), 7);
            }
        });
        EDGES.edge(12, "-2: it is not CARRIED;", c -> {
            ConfettiMinutes x = Check.town("1;1", "");
            c.due("at first", x.flings(0, 0), -2);
            x.carries(1);
            c.due("another one is", x.flings(0, 0), -2);
            Check.text(x, "c0t00s0").wedding();
            c.due("swept up", x.flings(0, 0), -2);
            c.due("FLUNG", x.count(5), 0);
        });
        EDGES.edge(12, "-3: it is FLUNG already;", c -> {
            ConfettiMinutes x = Edges.calm("2", "0", "c0t00n1");
            c.due("one lies, one is HELD", x.flings(0, 5), -3);
            c.due("BITS stay", x.bit(0, 1), 0);
            x.days(1);
            c.due("all are HELD", x.flings(0, 5), -3);
            c.due("BITS stay", x.bit(0, 1), 10);
        });
        EDGES.edge(12, "NONE: others.", c -> {
            ConfettiMinutes x = Check.town("1;1", "");
            Check.text(x, "c0c1t10").wedding();
            int[][] none = {{-1, 0}, {2, 0}, {32, 0}, {LEAST, 0}, {MOST, 0}, {0, -1}, {0, 8}, {0, LEAST}, {0, MOST},
                {1, -1}, {1, 8}, {0, 10}, {0, 20}};
            for (int[] a : none) {
                c.due("flings(" + a[0] + ", " + a[1] + ")", x.flings(a[0], a[1]), -1);
            }
            c.due("FLUNG", x.count(5), 2);
        });
    }

    private static void sweeps() {
        EDGES.edge(13, "(it is neither FLUNG nor CARRIED then): how many were HELD.", c -> {
            ConfettiMinutes x = Edges.calm("4;1", "0;0", "c0c1t00t15n1");
            c.due("half", x.sweeps(0), 2);
            c.due("CARRIED", x.law(0, 1), 0);
            c.due("FLUNG", x.law(0, 2), 0);
            c.due("lie", x.law(0, 3), 0);
            c.due("HELD", x.law(0, 4), 0);
            c.due("another LAW's BIT lies", x.bit(1, 0), 5);
            c.due("none", x.sweeps(1), 0);
            ConfettiMinutes all = Edges.calm("4", "0;0", "c0t00n2");
            c.due("all", all.sweeps(0), 4);
            c.due("nobody HOLDS one", all.one(0, 2) + all.one(1, 2), 0);
        });
        EDGES.edge(13, "A LAW that is FLUNG is swept up: none of its BITS lies or is HELD", c -> {
            ConfettiMinutes x = Edges.calm("4;4;4", "0;0", "c0c1c2t00t10t20n1");
            x.sweeps(1);
            c.due("lie", x.count(6), 6);
            c.due("are HELD", x.count(7), 2);
            x.sweeps(0);
            c.due("lie", x.count(6), 4);
            c.due("none is HELD", x.count(7), 0);
            x.sweeps(2);
            c.due("none lies", x.count(6), 0);
            c.due("picked up", x.days(60), 0);
        });
        EDGES.edge(13, "-2: it is not FLUNG;", c -> {
            ConfettiMinutes x = Check.town("1;1", "");
            c.due("at first", x.sweeps(0), -2);
            x.carries(0);
            c.due("CARRIED", x.sweeps(0), -2);
            c.due("CARRIED still", x.law(0, 1), 1);
            Check.text(x, "t00s0").wedding();
            c.due("swept up", x.sweeps(0), -2);
        });
        EDGES.edge(13, "NONE: none such.", c -> {
            ConfettiMinutes x = Check.town("1;1", "");
            for (int law : new int[] {-1, 2, 5, 32, LEAST, MOST}) {
                c.due("sweeps(" + law + ")", x.sweeps(law), -1);
            }
        });
    }

    private static void days() {
        EDGES.edge(14, "n DAYS (0 .. 60): how many BITS were picked up in these;", c -> {
            ConfettiMinutes x = Edges.calm("4", "0", "c0t00");
            c.due("none in none", x.days(0), 0);
            c.due("DAY", x.count(3), 0);
            c.due("HELD", x.count(7), 0);
            c.due("one in one", x.days(1), 1);
            c.due("three in 60", x.days(60), 3);
            c.due("DAY", x.count(3), 61);
            c.due("none is left", x.days(60), 0);
        });
        EDGES.edge(14, "the ROW: how many lie then, how many RIGHTS there are then (of each by each LAW).", c -> {
            ConfettiMinutes x = Edges.calm("1;1;1;1;1", "0;0", "c0c1c2c3c4t00t10t20t30t40");
            x.days(0);
            c.row("no DAY", x, 5, 0);
            x.days(1);
            c.row("one DAY", x, 3, 2);
            x.days(2);
            c.row("three DAYS", x, 0, 5);
            ConfettiMinutes none = new ConfettiMinutes();
            none.days(60);
            c.row("without LAWS and PEOPLE", none, 0, 0);
        });
        EDGES.edge(14, "Refused: another n.", c -> {
            ConfettiMinutes x = Edges.calm("1", "0", "c0t00");
            for (int n : new int[] {-1, 61, LEAST, MOST}) {
                c.due("days(" + n + ")", x.days(n), -1);
            }
            c.due("DAY", x.count(3), 0);
            c.due("deeds", x.count(11), 1);
            c.row("the wedding", x, 0, 0);
        });
    }

    private static void walks() {
        EDGES.edge(15, "One walks to a STREET (0 .. 7): how far that is.", c -> {
            ConfettiMinutes x = Check.town("", "0;1;2;3;7");
            c.due("0 to 7", x.walks(0, 7), 7);
            c.due("7 to 0", x.walks(4, 0), 7);
            c.due("3 to 2", x.walks(3, 2), 1);
            c.due("STREET", x.one(0, 0), 7);
            c.due("STREET", x.one(4, 0), 0);
        });
        EDGES.edge(15, "-2: he is there;", c -> {
            ConfettiMinutes x = Check.town("", "0;7");
            c.due("in 0", x.walks(0, 0), -2);
            c.due("in 7", x.walks(1, 7), -2);
            c.due("deeds", x.count(11), 0);
        });
        EDGES.edge(15, "NONE: others.", c -> {
            ConfettiMinutes x = Check.town("", "0;7");
            int[][] none = {{-1, 0}, {2, 0}, {5, 0}, {LEAST, 0}, {MOST, 0}, {0, -1}, {0, 8}, {0, LEAST}, {0, MOST}, {1, 8}};
            for (int[] a : none) {
                c.due("walks(" + a[0] + ", " + a[1] + ")", x.walks(a[0], a[1]), -1);
            }
            c.due("STREET", x.one(0, 0), 0);
        });
    }

    private static void gives() {
        EDGES.edge(16, "One gives all BITS of a LAW that he HOLDS to another one: how many.", c -> {
            ConfettiMinutes x = Edges.calm("4;1", "0;0;0;0;0", "c0c1t10n1t00p11p21p31p41n4");
            c.due("all", x.gives(0, 4, 0), 4);
            c.due("the other LAW's BIT stays", x.bit(1, 0), 10);
            c.due("one", x.gives(0, 1, 1), 1);
            c.due("nothing is left", x.one(0, 2), 0);
            ConfettiMinutes y = Edges.calm("4;4;4", "0;7", "c0c1c2t00t10t20n9n3");
            c.due("all of the second of three LAWS", y.gives(0, 1, 1), 4);
            c.due("the last BIT of the LAW ahead of it stays", y.bit(0, 3), 10);
            c.due("the first BIT of the LAW behind it stays", y.bit(2, 0), 10);
        });
        EDGES.edge(16, "-2: he has none;", c -> {
            ConfettiMinutes x = Edges.calm("1;2;1", "0;0", "c0c1t00t15n1");
            c.due("the other one has it", x.gives(1, 0, 0), -2);
            c.due("he has another LAW's", x.gives(0, 1, 1), -2);
            c.due("it is not FLUNG", x.gives(0, 1, 2), -2);
            c.due("deeds", x.count(11), 1);
        });
        EDGES.edge(16, "NONE: none such, like ones.", c -> {
            ConfettiMinutes x = Edges.calm("1;2", "0;0", "c0t00n1");
            int[][] none = {{-1, 0, 0}, {2, 0, 0}, {0, -1, 0}, {0, 2, 0}, {0, 1, -1}, {0, 1, 2}, {0, 0, 0}, {1, 1, 0},
                {LEAST, 0, 0}, {0, MOST, 0}, {0, 1, LEAST}, {0, 1, MOST}, {2, 2, 0}, {5, 5, 5}, {0, 1, 1 << 30}};
            for (int[] a : none) {
                c.due("gives(" + a[0] + ", " + a[1] + ", " + a[2] + ")", x.gives(a[0], a[1], a[2]), -1);
            }
            c.due("BIT", x.bit(0, 0), 10);
        });
    }

    private static void falls() {
        EDGES.edge(17, "One lets all BITS that he HOLDS fall (they lie in his STREET): how many.", c -> {
            ConfettiMinutes x = Edges.calm("4;4;1", "0;0", "c0c1c2t00t10p13n8p07");
            c.due("HOLDS", x.one(0, 2), 8);
            c.due("all of two LAWS", x.falls(0), 8);
            c.due("in his STREET", x.bit(0, 0), 7);
            c.due("in his STREET", x.bit(1, 3), 7);
            c.due("not FLUNG", x.bit(2, 0), 20);
        });
        EDGES.edge(17, "-2: he has none;", c -> {
            ConfettiMinutes x = Edges.calm("1", "0;0", "c0t00n1");
            c.due("the other one", x.falls(1), -2);
            x.falls(0);
            c.due("again", x.falls(0), -2);
        });
        EDGES.edge(17, "NONE: none such.", c -> {
            ConfettiMinutes x = Edges.calm("1", "0;0", "c0t00n1");
            for (int one : new int[] {-1, 2, 5, 10, LEAST, MOST, -10}) {
                c.due("falls(" + one + ")", x.falls(one), -1);
            }
            c.due("BIT", x.bit(0, 0), 10);
        });
    }

    private static void wind() {
        EDGES.edge(18, "WIND becomes v (-3 .. 3): 10 and what it was.", c -> {
            ConfettiMinutes x = new ConfettiMinutes();
            c.due("to the least", x.wind(-3), 11);
            c.due("to the most", x.wind(3), 7);
            c.due("to none", x.wind(0), 13);
            c.due("from none", x.wind(1), 10);
        });
        EDGES.edge(18, "-2: it is so;", c -> {
            ConfettiMinutes x = new ConfettiMinutes();
            c.due("at first", x.wind(1), -2);
            x.wind(-3);
            c.due("the least", x.wind(-3), -2);
            c.due("deeds", x.count(11), 1);
        });
        EDGES.edge(18, "NONE: another v.", c -> {
            ConfettiMinutes x = new ConfettiMinutes();
            for (int v : new int[] {-4, 4, LEAST, MOST}) {
                c.due("wind(" + v + ")", x.wind(v), -1);
            }
            c.due("WIND", x.count(2), 11);
        });
    }
}
