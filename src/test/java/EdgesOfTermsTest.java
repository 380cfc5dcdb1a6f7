/** Boundary cases that the Terms name, but for those of calls. */
public final class EdgesOfTermsTest {
    private static final Edges EDGES = new Edges("EdgesOfTermsTest");

    public static void main(String[] args) {
        lawsAndPeople();
        rights();
        atFirst();
        ruleShapes();
        ruleWorth();
        ruleNames();
        drift();
        daysGoBy();
        sets();
        EDGES.end(Edges.TERMS);
    }

    private static void edge(String words, Edges.Trial trial) {
        EDGES.edge(Edges.TERMS, words, trial);
    }

    private static void lawsAndPeople() {
        edge("STREETS 0 .. 7 in a row.", c -> {
            ConfettiMinutes x = Check.town("1;1", "3");
            Check.text(x, "c0c1").wedding();
            c.due("flings(0, -1)", x.flings(0, -1), -1);
            c.due("flings(0, 8)", x.flings(0, 8), -1);
            c.due("flings(0, 0)", x.flings(0, 0), 1);
            c.due("flings(1, 7)", x.flings(1, 7), 1);
            c.due("walks(0, 8)", x.walks(0, 8), -1);
            c.due("walks(0, -1)", x.walks(0, -1), -1);
            c.due("walks(0, 7)", x.walks(0, 7), 4);
            c.due("walks(0, 0)", x.walks(0, 0), 7);
        });
        edge("LAWS 0, 1, .. (at most 5)", c -> {
            ConfettiMinutes x = Check.town("1;1;1;1", "");
            c.due("a fifth", Check.text(x, "2").laws(), 1);
            c.due("its BITS", x.law(4, 0), 2);
            c.due("a sixth", Check.text(x, "2").laws(), -1);
            c.due("LAWS", x.count(0), 5);
            c.noSuch("law(5, 0)", () -> x.law(5, 0));
        });
        edge("BITS 1 .. 4 (so many it is torn in)", c -> {
            ConfettiMinutes x = Check.town("1;4", "");
            c.due("the only BIT of one", x.bit(0, 0), 20);
            c.noSuch("a second BIT of one", () -> x.bit(0, 1));
            c.due("the last BIT of four", x.bit(1, 3), 20);
            c.noSuch("a fifth BIT of four", () -> x.bit(1, 4));
            c.due("none", Check.text(x, "0").laws(), -1);
            c.due("five", Check.text(x, "5").laws(), -1);
        });
        edge("by a text of at most 9 signs: LINES with ; between, each one more: a digit 1 .. 4 (BITS).", c -> {
            ConfettiMinutes x = new ConfettiMinutes();
            c.due("ten signs", Check.text(x, "1;2;3;4;1;").laws(), -10);
            c.due("nine signs", Check.text(x, "1;2;3;4;1").laws(), 5);
        });
        edge("PEOPLE 0, 1, .. (at most 5)", c -> {
            ConfettiMinutes x = Check.town("", "1;1;1;1");
            c.due("a fifth", Check.text(x, "7").people(), 1);
            c.due("his STREET", x.one(4, 0), 7);
            c.due("a sixth", Check.text(x, "2").people(), -1);
            c.due("PEOPLE", x.count(1), 5);
            c.noSuch("one(5, 0)", () -> x.one(5, 0));
        });
        edge("by a text of at most 9 signs: LINES with ; between, each one more: a digit 0 .. 7 (STREET).", c -> {
            ConfettiMinutes x = new ConfettiMinutes();
            c.due("below 0", Check.text(x, "/").people(), -1);
            c.due("above 7", Check.text(x, "8").people(), -1);
            c.due("ten signs", Check.text(x, "0;1;2;3;4;").people(), -10);
            c.due("nine signs", Check.text(x, "0;7;2;3;4").people(), 5);
        });
    }

    private static void rights() {
        edge("One has a RIGHT by a LAW, if he HOLDS more than half of its BITS.", c -> {
            for (int bits = 1; bits <= 4; bits++) {
                ConfettiMinutes x = Edges.calm(String.valueOf(bits), "0", "c0t00");
                for (int held = 0; held <= bits; held++) {
                    int due = 2 * held > bits ? 1 : 0;
                    c.due("RIGHTS by " + held + " of " + bits, x.one(0, 1), due);
                    c.due("who has a RIGHT by " + held + " of " + bits, x.law(0, 5), due == 1 ? 0 : 5);
                    x.days(1);
                }
            }
        });
        edge("Each BIT (0, 1, ..) of a LAW that is FLUNG lies in a STREET, or is HELD by one of PEOPLE.", c -> {
            ConfettiMinutes x = Edges.calm("2;2", "0", "c0c1t00n1");
            c.due("HELD", x.bit(0, 0), 10);
            c.due("lies", x.bit(0, 1), 0);
            c.due("CARRIED alone", x.bit(1, 0), 20);
            c.due("lie", x.count(6), 1);
            c.due("are HELD", x.count(7), 1);
        });
    }

    private static void atFirst() {
        edge("CARRIED or not (at first not), FLUNG or not (at first not)", c -> {
            ConfettiMinutes x = Check.town("4", "");
            c.due("CARRIED", x.law(0, 1), 0);
            c.due("FLUNG", x.law(0, 2), 0);
            c.due("flings()", x.flings(0, 0), -2);
            x.carries(0);
            Check.text(x, "4").laws();
            c.due("a later one is CARRIED", x.law(1, 1), 0);
            c.due("a later one is FLUNG", x.law(1, 2), 0);
            c.due("the first one still is", x.law(0, 1), 1);
        });
        edge("WIND -3 .. 3 (at first 1)", c -> {
            ConfettiMinutes x = new ConfettiMinutes();
            c.due("at first", x.count(2), 11);
            c.due("wind(4)", x.wind(4), -1);
            c.due("wind(-4)", x.wind(-4), -1);
            c.due("wind(3)", x.wind(3), 11);
            c.due("wind(-3)", x.wind(-3), 13);
        });
        edge("DAY (at first 0)", c -> c.due("DAY", new ConfettiMinutes().count(3), 0));
        edge("THE RULE is a text of at most 40 signs (at first none: w).", c -> {
            ConfettiMinutes x = Check.town("1", "");
            Check.text(x, "c0t03").wedding();
            c.due("by the first WIND", x.later(0, 0, 1), 4);
            x.wind(-2);
            c.due("by another WIND", x.later(0, 0, 1), 1);
            c.due("40 signs", Check.text(x, "-".repeat(39) + "1").rule(), 0);
            c.due("41 signs", Check.text(x, "-".repeat(40) + "1").rule(), -41);
            c.due("by 40 signs", x.later(0, 0, 1), 2);
        });
    }

    /** What rule() answers. */
    private static int read(String rule) {
        return Check.text(new ConfettiMinutes(), rule).rule();
    }

    /** The STREET to which a BIT goes by a rule. */
    private static int to(int street, String rule) {
        return Edges.ruled("1", "", rule, "c0t0" + street).later(0, 0, 1);
    }

    private static void ruleShapes() {
        edge("not one behind the other", c -> {
            c.due("1<2<3", read("1<2<3"), -4);
            c.due("1=2=3", read("1=2=3"), -4);
            c.due("1>2>3", read("1>2>3"), -4);
            c.due("1<2+3>4", read("1<2+3>4"), -6);
            c.due("(1<2<3)", read("(1<2<3)"), -5);
            c.due("(1<2)<3<4", read("(1<2)<3<4"), -8);
            c.due("1<(2<3)<4", read("1<(2<3)<4"), -8);
            c.due("in ( ) it may", read("(1<2)<(3<4)"), 0);
            c.due("in ( ) behind ( ) it may", read("(1<2)+(1<2)"), 0);
        });
        edge("then - ahead of a thing (any many)", c -> {
            c.due("39 of them are odd", to(7, "-".repeat(39) + "2"), 5);
            c.due("38 of them are even", to(3, "-".repeat(38) + "2"), 5);
            c.due("behind another -", to(0, "2---1"), 1);
            c.due("behind *", to(7, "2*-1"), 5);
            c.due("behind (", to(7, "(-2)"), 5);
            c.due("ahead of (", to(0, "-(1-3)"), 2);
            c.due("behind <", to(0, "-1<-0"), 1);
            c.due("it binds more than *", to(7, "-1*2"), 5);
            c.due("alone it ends too early", read("--"), -3);
        });
        edge("a NUMBER of 1 to 3 digits", c -> {
            c.due("three", to(0, "999-996"), 3);
            c.due("one", to(0, "4"), 4);
            c.due("with 0 ahead", to(0, "004"), 4);
            c.due("four", read("1234"), -4);
            c.due("four with 0 ahead", read("0001"), -4);
            c.due("four behind another", read("123+1234"), -8);
            c.due("a name behind a digit", read("1w"), -2);
            c.due("a digit behind a name", read("w1"), -2);
            c.due("a digit behind )", read("(1)2"), -4);
        });
        edge("an EXPRESSION in ( ) (at most 4 in one another)", c -> {
            c.due("four", to(0, "((((3))))"), 3);
            c.due("five", read("(((((3)))))"), -5);
            c.due("four, and four behind them", to(0, "((((3))))+((((1))))"), 4);
            c.due("five behind four", read("((((3))))+(((((1)))))"), -15);
            c.due("none in it", read("()"), -2);
            c.due("one ) too many", read("(3))"), -4);
            c.due("one ) too few", read("((3)"), -5);
        });
    }

    private static void ruleWorth() {
        edge("< > = bind least (two; 1 or 0;", c -> {
            c.due("1+1<3 is 1", to(0, "1+1<3"), 1);
            c.due("2<2 is 0", to(3, "2<2"), 3);
            c.due("2>2 is 0", to(3, "2>2"), 3);
            c.due("2=2 is 1", to(3, "2=2"), 4);
            c.due("1<2 is 1", to(3, "1<2"), 4);
            c.due("2<1 is 0", to(3, "2<1"), 3);
            c.due("2>1 is 1", to(3, "2>1"), 4);
            c.due("1>2 is 0", to(3, "1>2"), 3);
            c.due("2=1 is 0", to(3, "2=1"), 3);
            c.due("3=1+2 is 1", to(3, "3=1+2"), 4);
        });
        edge("then + - (from the left)", c -> {
            c.due("7-3-2", to(0, "7-3-2"), 2);
            c.due("7-3+2", to(0, "7-3+2"), 6);
            c.due("1+2*3", to(0, "1+2*3"), 7);
            c.due("7-2*3", to(0, "7-2*3"), 1);
        });
        edge("then * / (from the left;", c -> {
            c.due("7/2*2", to(0, "7/2*2"), 6);
            c.due("9/3/3", to(0, "9/3/3"), 1);
            c.due("2*3/4", to(0, "2*3/4"), 1);
        });
        edge("by 0: 0;", c -> {
            c.due("5/0", to(3, "5/0"), 3);
            c.due("0/0", to(3, "0/0"), 3);
            c.due("-5/0", to(3, "-5/0"), 3);
            c.due("2+5/0", to(3, "2+5/0"), 5);
            c.due("5/(1-1)+1", to(3, "5/(1-1)+1"), 4);
            c.due("5/0/0+1", to(3, "5/0/0+1"), 4);
        });
        edge("cut to 0)", c -> {
            c.due("7/2", to(0, "7/2"), 3);
            c.due("-7/2", to(7, "-7/2"), 4);
            c.due("7/-2", to(7, "7/-2"), 4);
            c.due("-7/-2", to(0, "-7/-2"), 3);
            c.due("-1/2", to(3, "-1/2"), 3);
        });
        edge("As ints", c -> {
            c.due("2 to the power of 31 is below 0", to(3, "512*512*512*16<0"), 4);
            c.due("2 to the power of 32 is 0", to(3, "256*256*256*256+2"), 5);
            c.due("999 to the power of 4 is below 0", to(3, "999*999*999*999<0"), 4);
            c.due("the least int less 1 is above 0", to(3, "512*512*512*16-1>0"), 4);
            c.due("the most int and 1 is below 0", to(3, "(512*512*512*16-1)+1<0"), 4);
            c.due("- ahead of the least int leaves it", to(3, "-(512*512*512*16)<0"), 4);
            c.due("the least int by -1 is itself", to(3, "512*512*512*16/-1<0"), 4);
        });
    }

    private static void ruleNames() {
        edge("w WIND", c -> {
            ConfettiMinutes x = Edges.ruled("1", "", "w", "c0t03w-3");
            c.due("the least", x.later(0, 0, 1), 0);
            x.wind(3);
            c.due("the most", x.later(0, 0, 1), 6);
            x.wind(0);
            c.due("none", x.later(0, 0, 1), 3);
        });
        edge("i its number, l number of its LAW, m BITS of its LAW", c -> {
            ConfettiMinutes x = Edges.ruled("1;1;2;1;4", "", "i", "c0c4t00t40");
            c.due("i of the first", x.later(4, 0, 1), 0);
            c.due("i of the last", x.later(4, 3, 1), 3);
            Check.text(x, "l").rule();
            c.due("l of the first", x.later(0, 0, 1), 0);
            c.due("l of the last", x.later(4, 0, 1), 4);
            Check.text(x, "m").rule();
            c.due("m of the fewest", x.later(0, 0, 1), 1);
            c.due("m of the most", x.later(4, 0, 1), 4);
        });
        edge("s STREET", c -> {
            c.due("0", to(0, "s"), 0);
            c.due("3", to(3, "s"), 6);
            c.due("7", to(7, "-s"), 0);
        });
        edge("k how many other BITS lie in its STREET", c -> {
            c.due("it is alone", to(3, "k"), 3);
            ConfettiMinutes x = Edges.ruled("4;1;2", "1", "k", "c0c1c2t01t10");
            c.due("three others", x.later(0, 0, 1), 4);
            c.due("none in its STREET", x.later(1, 0, 1), 0);
            Check.text(x, "0").rule();
            x.days(1);
            Check.text(x, "k").rule();
            c.due("one that is HELD does not lie", x.later(0, 1, 1), 3);
            x.flings(2, 1);
            c.due("BITS of another LAW lie there, too", x.later(0, 1, 1), 5);
        });
        edge("n DAY by 7 (rest)", c -> {
            ConfettiMinutes x = Edges.ruled("1", "", "n", "c0t00");
            c.due("DAY 0", x.later(0, 0, 1), 0);
            ConfettiMinutes six = Edges.ruled("1", "", "n", "n6c0t00");
            c.due("DAY 6", six.later(0, 0, 1), 6);
            ConfettiMinutes seven = Edges.ruled("1", "", "n", "n7c0t00");
            c.due("DAY 7", seven.later(0, 0, 1), 0);
            ConfettiMinutes thirteen = Edges.ruled("1", "", "n", "n9n4c0t00");
            c.due("DAY 13", thirteen.later(0, 0, 1), 6);
            ConfettiMinutes fourteen = Edges.ruled("1", "", "n", "n9n5c0t00");
            c.due("DAY 14", fourteen.later(0, 0, 1), 0);
        });
    }

    private static void drift() {
        edge("put to -7 .. 7: DRIFT", c -> {
            c.due("999 from 0", to(0, "999"), 7);
            c.due("-999 from 7", to(7, "-999"), 0);
            c.due("7 from 0", to(0, "7"), 7);
            c.due("-7 from 7", to(7, "-7"), 0);
            c.due("the most int from 7", to(7, "512*512*512*16-1"), 7);
            c.due("the least int from 0", to(0, "512*512*512*16"), 0);
        });
        edge("each BIT that lies goes DRIFT STREETS up (below 0: down), to 0, 7 at most", c -> {
            c.due("up from 7", to(7, "1"), 7);
            c.due("down from 0", to(0, "-1"), 0);
            c.due("up from 6", to(6, "3"), 7);
            c.due("down from 1", to(1, "-3"), 0);
            c.due("up to 7", to(6, "1"), 7);
            c.due("down to 0", to(1, "-1"), 0);
        });
        edge("(all as all is ahead of it)", c -> {
            ConfettiMinutes x = Edges.ruled("2;1", "", "k", "c0c1t00t11n1");
            c.due("the first", x.bit(0, 0), 1);
            c.due("the second is not alone, though the first went", x.bit(0, 1), 1);
            c.due("one is alone, though others came", x.bit(1, 0), 1);
        });
    }

    private static void daysGoBy() {
        edge("PEOPLE by their numbers: one picks up the first BIT (by LAWS, then by BITS)", c -> {
            ConfettiMinutes x = Edges.calm("2;1;1", "5;5;5", "c0c1c2t25t15t05n1");
            c.due("the first one", x.bit(0, 0), 10);
            c.due("the second one", x.bit(0, 1), 11);
            c.due("the third one", x.bit(1, 0), 12);
            c.due("nobody is left", x.bit(2, 0), 5);
        });
        edge("that lies in his STREET then, if there is one: he HOLDS it.", c -> {
            ConfettiMinutes x = Check.town("1;1", "0;1");
            Check.text(x, "c0c1t00t15n1").wedding();
            c.due("it went out of his STREET", x.one(0, 2), 0);
            c.due("it came into his STREET", x.one(1, 2), 1);
            c.due("none is there", x.days(1), 0);
            c.due("one goes on", x.bit(1, 0), 7);
            ConfettiMinutes y = Edges.calm("1", "4;4", "c0t04n1");
            c.due("one BIT, the first one has it", y.bit(0, 0), 10);
            c.due("one BIT, the second one has none", y.one(1, 2), 0);
        });
        edge("DAY is 1 more.", c -> {
            ConfettiMinutes x = new ConfettiMinutes();
            x.days(0);
            c.due("no DAY", x.count(3), 0);
            x.days(1);
            c.due("one DAY", x.count(3), 1);
            x.days(60);
            c.due("61 DAYS", x.count(3), 61);
        });
    }

    private static void sets() {
        edge("Sets (of LAWS, PEOPLE, BITS) are bits.", c -> {
            ConfettiMinutes x = Edges.calm("1;1;1;1;4", "1;1;1;1;0", "c0c4t40n4");
            c.due("the first and the last of LAWS", x.count(4), 17);
            c.due("the last of LAWS", x.one(4, 1), 16);
            x.whole(4);
            c.row("the last of PEOPLE", x, 16);
            x.falls(4);
            c.due("all of BITS", x.law(4, 3), 15);
        });
        edge("Rows are compared from the first number on.", c -> {
            ConfettiMinutes x = Edges.calm("1;1", "0", "c0c1t00t10n2");
            x.awards();
            c.row("-1, 0 is less than 0, -1", x, -1, 0);
            x.grasps(17);
            c.row("8, 9 is less than 9, 8", x, 8, 9);
            x.went(1, 1, 1);
            x.scatters();
            c.row("0, 1 is less than 1, 0", x, 0, 11);
        });
        edge("a set carries it, if it has more than half of all that are HELD", c -> {
            ConfettiMinutes x = Edges.calm("4", "0;0", "c0t00n1");
            x.power(0);
            c.row("one of two, two lie", x, 1, 2);
            x.gives(1, 0, 0);
            x.power(0);
            c.row("two of two, two lie", x, 1, 1);
            c.due("sets", x.least(), 1);
            c.row("he alone", x, 1);
        });
        edge("(-3 .. 3, not told; all else as it is)", c -> {
            ConfettiMinutes x = Edges.ruled("3", "", "w*(k+n)", "n1c0t03");
            x.seen(0, 0, 0);
            c.due("-1 and below", x.guess(), 7);
            x.forget();
            x.seen(0, 0, 7);
            c.due("2 and above", x.guess(), 96);
            x.days(6);
            x.forget();
            Check.text(x, "w*n").rule();
            x.seen(0, 0, x.bit(0, 0));
            c.due("on a DAY by which none blows", x.guess(), 127);
        });
        edge("(a 0 .. 3, b -2 .. 2: a BIT goes a times WIND and b times its number)", c -> {
            ConfettiMinutes x = new ConfettiMinutes();
            for (int a = -1; a <= 4; a++) {
                for (int b = -3; b <= 3; b++) {
                    x.clears();
                    x.went(3, 0, 3 * a);
                    x.went(-2, 3, -2 * a + 3 * b);
                    boolean is = a >= 0 && a <= 3 && b >= -2 && b <= 2;
                    c.due("a " + a + ", b " + b, x.scatters(), is ? 1 : 0);
                }
            }
        });
    }
}
