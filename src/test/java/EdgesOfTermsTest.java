/** Boundary cases that the Terms name. */
public final class EdgesOfTermsTest {
    private static final Edges EDGES = new Edges("EdgesOfTermsTest");

    public static void main(String[] args) {
        lawsAndPeople();
        rights();
        atFirst();
        ruleShapes();
        ruleWorth();
        ruleNames();
        drift();
        daysGoBy();
        fractions();
        questions();
        refusedCalls();
        noneComesAhead();
        rowStays();
        EDGES.end(Edges.TERMS);
    }

    private static void edge(String words, Edges.Trial trial) {
        EDGES.edge(Edges.TERMS, words, trial);
    }

    private static void lawsAndPeople() {
        edge("STREETS 0 .. 7 in a row.", c -> {
            ConfettiMinutes x = Check.town("1;1", "3");
            Check.text(x, "c0c1").wedding();
            c.due("flings(0, -1)", x.flings(0, -1), -1);
            c.due("flings(0, 8)", x.flings(0, 8), -1);
            c.due("flings(0, 0)", x.flings(0, 0), 1);
            c.due("flings(1, 7)", x.flings(1, 7), 1);
            c.due("walks(0, 8)", x.walks(0, 8), -1);
            c.due("walks(0, -1)", x.walks(0, -1), -1);
            c.due("walks(0, 7)", x.walks(0, 7), 4);
            c.due("walks(0, 0)", x.walks(0, 0), 7);
        });
        edge("LAWS 0, 1, .. (at most 5)", c -> {
            ConfettiMinutes x = Check.town("1;1;1;1", "");
            c.due("a fifth", Check.text(x, "2").laws(), 1);
            c.due("its BITS", x.law(4, 0), 2);
            c.due("a sixth", Check.text(x, "2").laws(), -1);
            c.due("LAWS", x.count(0), 5);
            c.noSuch("law(5, 0)", () -> x.law(5, 0));
        });
        edge("BITS 1 .. 4 (so many it is torn in)", c -> {
            ConfettiMinutes x = Check.town("1;4", "");
            c.due("the only BIT of one", x.bit(0, 0), 20);
            c.noSuch("a second BIT of one", () -> x.bit(0, 1));
            c.due("the last BIT of four", x.bit(1, 3), 20);
            c.noSuch("a fifth BIT of four", () -> x.bit(1, 4));
            c.due("none", Check.text(x, "0").laws(), -1);
            c.due("five", Check.text(x, "5").laws(), -1);
        });
        edge("by a text of at most 9 signs: LINES with ; between, each one more: a digit 1 .. 4 (BITS).", c -> {
            ConfettiMinutes x = new ConfettiMinutes();
            c.due("ten signs", Check.text(x, "1;2;3;4;1;").laws(), -10);
            c.due("nine signs", Check.text(x, "1;2;3;4;1").laws(), 5);
        });
        edge("PEOPLE 0, 1, .. (at most 5)", c -> {
            ConfettiMinutes x = Check.town("", "1;1;1;1");
            c.due("a fifth", Check.text(x, "7").people(), 1);
            c.due("his STREET", x.one(4, 0), 7);
            c.due("a sixth", Check.text(x, "2").people(), -1);
            c.due("PEOPLE", x.count(1), 5);
            c.noSuch("one(5, 0)", () -> x.one(5, 0));
        });
        edge("by a text of at most 9 signs: LINES with ; between, each one more: a digit 0 .. 7 (STREET).", c -> {
            ConfettiMinutes x = new ConfettiMinutes();
            c.due("below 0", Check.text(x, "/").people(), -1);
            c.due("above 7", Check.text(x, "8").people(), -1);
            c.due("ten signs", Check.text(x, "0;1;2;3;4;").people(), -10);
            c.due("nine signs", Check.text(x, "0;7;2;3;4").people(), 5);
        });
    }

    private static void rights() {
        edge("One has a RIGHT by a LAW, if he HOLDS more than half of its BITS.", c -> {
            for (int bits = 1; bits <= 4; bits++) {
                ConfettiMinutes x = Edges.calm(String.valueOf(bits), "0", "c0t00");
                for (int held = 0; held <= bits; held++) {
                    int due = 2 * held > bits ? 1 : 0;
                    c.due("RIGHTS by " + held + " of " + bits, x.one(0, 1), due);
                    c.due("who has a RIGHT by " + held + " of " + bits, x.law(0, 5), due == 1 ? 0 : 5);
                    x.days(1);
                }
            }
        });
        edge("Each BIT (0, 1, ..) of a LAW that is FLUNG lies in a STREET, or is HELD by one of PEOPLE.", c -> {
            ConfettiMinutes x = Edges.calm("2;2", "0", "c0c1t00n1");
            c.due("HELD", x.bit(0, 0), 10);
            c.due("lies", x.bit(0, 1), 0);
            c.due("CARRIED alone", x.bit(1, 0), 20);
            c.due("lie", x.count(6), 1);
            c.due("are HELD", x.count(7), 1);
        });
    }

    private static void atFirst() {
        edge("CARRIED or not (at first not), FLUNG or not (at first not)", c -> {
            ConfettiMinutes x = Check.town("4", "");
            c.due("CARRIED", x.law(0, 1), 0);
            c.due("FLUNG", x.law(0, 2), 0);
            c.due("flings()", x.flings(0, 0), -2);
            x.carries(0);
            Check.text(x, "4").laws();
            c.due("a later one is CARRIED", x.law(1, 1), 0);
            c.due("a later one is FLUNG", x.law(1, 2), 0);
            c.due("the first one still is", x.law(0, 1), 1);
        });
        edge("WIND -3 .. 3 (at first 1)", c -> {
            ConfettiMinutes x = new ConfettiMinutes();
            c.due("at first", x.count(2), 11);
            c.due("wind(4)", x.wind(4), -1);
            c.due("wind(-4)", x.wind(-4), -1);
            c.due("wind(3)", x.wind(3), 11);
            c.due("wind(-3)", x.wind(-3), 13);
        });
        edge("DAY (at first 0)", c -> c.due("DAY", new ConfettiMinutes().count(3), 0));
        edge("THE RULE is a text of at most 40 signs (at first none: w).", c -> {
            ConfettiMinutes x = Check.town("1", "");
            Check.text(x, "c0t03").wedding();
            c.due("by the first WIND", x.later(0, 0, 1), 4);
            x.wind(-2);
            c.due("by another WIND", x.later(0, 0, 1), 1);
            c.due("40 signs", Check.text(x, "-".repeat(39) + "1").rule(), 0);
            c.due("41 signs", Check.text(x, "-".repeat(40) + "1").rule(), -41);
            c.due("by 40 signs", x.later(0, 0, 1), 2);
        });
    }

    /** What rule() answers. */
    private static int read(String rule) {
        return Check.text(new ConfettiMinutes(), rule).rule();
    }

    /** The STREET to which a BIT goes by a rule. */
    private static int to(int street, String rule) {
        return Edges.ruled("1", "", rule, "c0t0" + street).later(0, 0, 1);
    }

    private static void ruleShapes() {
        edge("not one behind the other", c -> {
            c.due("1<2<3", read("1<2<3"), -4);
            c.due("1=2=3", read("1=2=3"), -4);
            c.due("1>2>3", read("1>2>3"), -4);
            c.due("1<2+3>4", read("1<2+3>4"), -6);
            c.due("(1<2<3)", read("(1<2<3)"), -5);
            c.due("(1<2)<3<4", read("(1<2)<3<4"), -8);
            c.due("1<(2<3)<4", read("1<(2<3)<4"), -8);
            c.due("in ( ) it may", read("(1<2)<(3<4)"), 0);
            c.due("in ( ) behind ( ) it may", read("(1<2)+(1<2)"), 0);
        });
        edge("then - ahead of a thing (any many)", c -> {
            c.due("39 of them are odd", to(7, "-".repeat(39) + "2"), 5);
            c.due("38 of them are even", to(3, "-".repeat(38) + "2"), 5);
            c.due("behind another -", to(0, "2---1"), 1);
            c.due("behind *", to(7, "2*-1"), 5);
            c.due("behind (", to(7, "(-2)"), 5);
            c.due("ahead of (", to(0, "-(1-3)"), 2);
            c.due("behind <", to(0, "-1<-0"), 1);
            c.due("it binds more than *", to(7, "-1*2"), 5);
            c.due("alone it ends too early", read("--"), -3);
        });
        edge("a NUMBER of 1 to 3 digits", c -> {
            c.due("three", to(0, "999-996"), 3);
            c.due("one", to(0, "4"), 4);
            c.due("with 0 ahead", to(0, "004"), 4);
            c.due("four", read("1234"), -4);
            c.due("four with 0 ahead", read("0001"), -4);
            c.due("four behind another", read("123+1234"), -8);
            c.due("a name behind a digit", read("1w"), -2);
            c.due("a digit behind a name", read("w1"), -2);
            c.due("a digit behind )", read("(1)2"), -4);
        });
        edge("an EXPRESSION in ( ) (at most 4 in one another)", c -> {
            c.due("four", to(0, "((((3))))"), 3);
            c.due("five", read("(((((3)))))"), -5);
            c.due("four, and four behind them", to(0, "((((3))))+((((1))))"), 4);
            c.due("five behind four", read("((((3))))+(((((1)))))"), -15);
            c.due("none in it", read("()"), -2);
            c.due("one ) too many", read("(3))"), -4);
            c.due("one ) too few", read("((3)"), -5);
        });
    }

    private static void ruleWorth() {
        edge("< > = bind least (two; 1 or 0;", c -> {
            c.due("1+1<3 is 1", to(0, "1+1<3"), 1);
            c.due("2<2 is 0", to(3, "2<2"), 3);
            c.due("2>2 is 0", to(3, "2>2"), 3);
            c.due("2=2 is 1", to(3, "2=2"), 4);
            c.due("1<2 is 1", to(3, "1<2"), 4);
            c.due("2<1 is 0", to(3, "2<1"), 3);
            c.due("2>1 is 1", to(3, "2>1"), 4);
            c.due("1>2 is 0", to(3, "1>2"), 3);
            c.due("2=1 is 0", to(3, "2=1"), 3);
            c.due("3=1+2 is 1", to(3, "3=1+2"), 4);
        });
        edge("then + - (from the left)", c -> {
            c.due("7-3-2", to(0, "7-3-2"), 2);
            c.due("7-3+2", to(0, "7-3+2"), 6);
            c.due("1+2*3", to(0, "1+2*3"), 7);
            c.due("7-2*3", to(0, "7-2*3"), 1);
        });
        edge("then * / (from the left;", c -> {
            c.due("7/2*2", to(0, "7/2*2"), 6);
            c.due("9/3/3", to(0, "9/3/3"), 1);
            c.due("2*3/4", to(0, "2*3/4"), 1);
        });
        edge("by 0: 0;", c -> {
            c.due("5/0", to(3, "5/0"), 3);
            c.due("0/0", to(3, "0/0"), 3);
            c.due("-5/0", to(3, "-5/0"), 3);
            c.due("2+5/0", to(3, "2+5/0"), 5);
            c.due("5/(1-1)+1", to(3, "5/(1-1)+1"), 4);
            c.due("5/0/0+1", to(3, "5/0/0+1"), 4);
        });
        edge("cut to 0)", c -> {
            c.due("7/2", to(0, "7/2"), 3);
            c.due("-7/2", to(7, "-7/2"), 4);
            c.due("7/-2", to(7, "7/-2"), 4);
            c.due("-7/-2", to(0, "-7/-2"), 3);
            c.due("-1/2", to(3, "-1/2"), 3);
        });
        edge("As ints", c -> {
            c.due("2 to the power of 31 is below 0", to(3, "512*512*512*16<0"), 4);
            c.due("2 to the power of 32 is 0", to(3, "256*256*256*256+2"), 5);
            c.due("999 to the power of 4 is below 0", to(3, "999*999*999*999<0"), 4);
            c.due("the least int less 1 is above 0", to(3, "512*512*512*16-1>0"), 4);
            c.due("the most int and 1 is below 0", to(3, "(512*512*512*16-1)+1<0"), 4);
            c.due("- ahead of the least int leaves it", to(3, "-(512*512*512*16)<0"), 4);
            c.due("the least int by -1 is itself", to(3, "512*512*512*16/-1<0"), 4);
        });
    }

    private static void ruleNames() {
        edge("w WIND", c -> {
            ConfettiMinutes x = Edges.ruled("1", "", "w", "c0t03w-3");
            c.due("the least", x.later(0, 0, 1), 0);
            x.wind(3);
            c.due("the most", x.later(0, 0, 1), 6);
            x.wind(0);
            c.due("none", x.later(0, 0, 1), 3);
        });
        edge("i its number, l number of its LAW, m BITS of its LAW", c -> {
            ConfettiMinutes x = Edges.ruled("1;1;2;1;4", "", "i", "c0c4t00t40");
            c.due("i of the first", x.later(4, 0, 1), 0);
            c.due("i of the last", x.later(4, 3, 1), 3);
            Check.text(x, "l").rule();
            c.due("l of the first", x.later(0, 0, 1), 0);
            c.due("l of the last", x.later(4, 0, 1), 4);
            Check.text(x, "m").rule();
            c.due("m of the fewest", x.later(0, 0, 1), 1);
            c.due("m of the most", x.later(4, 0, 1), 4);
        });
        edge("s STREET", c -> {
            c.due("0", to(0, "s"), 0);
            c.due("3", to(3, "s"), 6);
            c.due("7", to(7, "-s"), 0);
        });
        edge("k how many other BITS lie in its STREET", c -> {
            c.due("it is alone", to(3, "k"), 3);
            ConfettiMinutes x = Edges.ruled("4;1;2", "1", "k", "c0c1c2t01t10");
            c.due("three others", x.later(0, 0, 1), 4);
            c.due("none in its STREET", x.later(1, 0, 1), 0);
            Check.text(x, "0").rule();
            x.days(1);
            Check.text(x, "k").rule();
            c.due("one that is HELD does not lie", x.later(0, 1, 1), 3);
            x.flings(2, 1);
            c.due("BITS of another LAW lie there, too", x.later(0, 1, 1), 5);
        });
        edge("n DAY by 7 (rest)", c -> {
            ConfettiMinutes x = Edges.ruled("1", "", "n", "c0t00");
            c.due("DAY 0", x.later(0, 0, 1), 0);
            ConfettiMinutes six = Edges.ruled("1", "", "n", "n6c0t00");
            c.due("DAY 6", six.later(0, 0, 1), 6);
            ConfettiMinutes seven = Edges.ruled("1", "", "n", "n7c0t00");
            c.due("DAY 7", seven.later(0, 0, 1), 0);
            ConfettiMinutes thirteen = Edges.ruled("1", "", "n", "n9n4c0t00");
            c.due("DAY 13", thirteen.later(0, 0, 1), 6);
            ConfettiMinutes fourteen = Edges.ruled("1", "", "n", "n9n5c0t00");
            c.due("DAY 14", fourteen.later(0, 0, 1), 0);
        });
    }

    private static void drift() {
        edge("put to -7 .. 7: DRIFT", c -> {
            c.due("999 from 0", to(0, "999"), 7);
            c.due("-999 from 7", to(7, "-999"), 0);
            c.due("7 from 0", to(0, "7"), 7);
            c.due("-7 from 7", to(7, "-7"), 0);
            c.due("the most int from 7", to(7, "512*512*512*16-1"), 7);
            c.due("the least int from 0", to(0, "512*512*512*16"), 0);
        });
        edge("each BIT that lies goes DRIFT STREETS up (below 0: down), to 0, 7 at most", c -> {
            c.due("up from 7", to(7, "1"), 7);
            c.due("down from 0", to(0, "-1"), 0);
            c.due("up from 6", to(6, "3"), 7);
            c.due("down from 1", to(1, "-3"), 0);
            c.due("up to 7", to(6, "1"), 7);
            c.due("down to 0", to(1, "-1"), 0);
        });
        edge("(all as all is ahead of it)", c -> {
            ConfettiMinutes x = Edges.ruled("2;1", "", "k", "c0c1t00t11n1");
            c.due("the first", x.bit(0, 0), 1);
            c.due("the second is not alone, though the first went", x.bit(0, 1), 1);
            c.due("one is alone, though others came", x.bit(1, 0), 1);
        });
    }

    private static void daysGoBy() {
        edge("PEOPLE by their numbers: one picks up the first BIT (by LAWS, then by BITS)", c -> {
            ConfettiMinutes x = Edges.calm("2;1;1", "5;5;5", "c0c1c2t25t15t05n1");
            c.due("the first one", x.bit(0, 0), 10);
            c.due("the second one", x.bit(0, 1), 11);
            c.due("the third one", x.bit(1, 0), 12);
            c.due("nobody is left", x.bit(2, 0), 5);
        });
        edge("that lies in his STREET then, if there is one: he HOLDS it.", c -> {
            ConfettiMinutes x = Check.town("1;1", "0;1");
            Check.text(x, "c0c1t00t15n1").wedding();
            c.due("it went out of his STREET", x.one(0, 2), 0);
            c.due("it came into his STREET", x.one(1, 2), 1);
            c.due("none is there", x.days(1), 0);
            c.due("one goes on", x.bit(1, 0), 7);
            ConfettiMinutes y = Edges.calm("1", "4;4", "c0t04n1");
            c.due("one BIT, the first one has it", y.bit(0, 0), 10);
            c.due("one BIT, the second one has none", y.one(1, 2), 0);
        });
        edge("DAY is 1 more.", c -> {
            ConfettiMinutes x = new ConfettiMinutes();
            x.days(0);
            c.due("no DAY", x.count(3), 0);
            x.days(1);
            c.due("one DAY", x.count(3), 1);
            x.days(60);
            c.due("61 DAYS", x.count(3), 61);
        });
    }

    private static void fractions() {
        edge("Fractions are told in lowest terms, upper and lower number (0 by 1).", c -> {
            ConfettiMinutes x = Edges.calm("3;4", "0;0;0", "c0t00n1");
            x.power(0);
            c.row("2 by 4", x, 1, 2);
            x.odds(0, 0, 5);
            c.row("none", x, 0, 1);
            x.gives(0, 1, 0);
            x.power(0);
            c.row("none by 4", x, 0, 1);
            x.power(1);
            c.row("4 by 4", x, 1, 1);
            x.odds(1, 0, 5);
            c.row("25 by 100", x, 1, 4);
            x.odds(1, 0, 0);
            c.row("100 by 100", x, 1, 1);
        });
        edge("ROW: numbers told last by a call that says so.", c -> {
            ConfettiMinutes x = new ConfettiMinutes();
            c.row("a new object", x);
            x.days(0);
            c.row("days(0)", x, 0, 0);
            x.wind(2);
            x.handfuls(3);
            x.carries(0);
            x.undo();
            c.row("calls that do not say so", x, 0, 0);
            x.line();
            c.row("a call that tells no number", x);
        });
    }

    private static void unchanged(Check c, String name, Twins.Call call, boolean withRow) {
        Twins twins = new Twins();
        Twins.answerOf(twins.first, call);
        c.due(name + " changes nothing", Twins.all(twins.first, withRow).equals(Twins.all(twins.second, withRow)), true);
    }

    private static void questions() {
        edge("Questions change nothing.", c -> {
            Object[][] questions = questionsAsked();
            for (Object[] question : questions) {
                unchanged(c, (String) question[0], (Twins.Call) question[1], false);
            }
        });
        edge("What is asked of DAYS to come is asked as if nothing else were done.", c -> {
            for (int n = 0; n <= 6; n++) {
                Twins twins = new Twins();
                int where = twins.first.later(0, 0, n);
                long lie = twins.first.row(0);
                twins.second.days(n);
                c.due("where it is in " + n, where, twins.second.bit(0, 0));
                c.due("how many lie in " + n, lie, twins.second.row(0));
            }
        });
    }

    private static Object[][] questionsAsked() {
        return new Object[][] {
            ask("law", x -> x.law(0, 5)), ask("bit", x -> x.bit(0, 0)), ask("one", x -> x.one(0, 1)),
            ask("later", x -> x.later(0, 0, 60)), ask("when", x -> x.when(0, 0)), ask("clean", x -> x.clean()),
            ask("drifts", x -> x.drifts(60)), ask("aims", x -> x.aims(2, 0, 30)), ask("prays", x -> x.prays(0, 30)),
            ask("seeks", x -> x.seeks(0, 30)), ask("whole", x -> x.whole(1)), ask("quorum", x -> x.quorum()),
            ask("awards", x -> x.awards()), ask("needs", x -> x.needs(0, 0)), ask("line", x -> x.line()),
            ask("power", x -> x.power(0)), ask("least", x -> x.least()), ask("guess", x -> x.guess()),
            ask("looks", x -> x.looks()), ask("fits", x -> x.fits()), ask("asks", x -> x.asks()),
            ask("odds", x -> x.odds(0, 0, 5)), ask("scatters", x -> x.scatters()), ask("tries", x -> x.tries()),
            ask("handfuls", x -> x.handfuls(60)), ask("grasps", x -> x.grasps(9)), ask("years", x -> x.years(7, 60)),
            ask("count", x -> x.count(3)), ask("row", x -> x.row(0)),
        };
    }

    private static Object[] ask(String name, Twins.Call call) {
        return new Object[] {name, call};
    }

    private static void refusedCalls() {
        edge("Refused calls answer NONE, or false, and change nothing but THE TEXT", c -> {
            for (Object[] refusal : refusals()) {
                Twins.Call call = (Twins.Call) refusal[1];
                String answer = Twins.answerOf(new Twins().first, call);
                c.due(refusal[0] + " is refused, not " + answer, answer.equals("-1") || answer.equals("false"), true);
                unchanged(c, (String) refusal[0], call, true);
            }
        });
        edge("which a call that reads it empties", c -> {
            String[] texts = {"x", "1;", "9", "w+"};
            for (String text : texts) {
                emptied(c, "laws() of " + text, text, x -> x.laws());
                emptied(c, "people() of " + text, text, x -> x.people());
                emptied(c, "rule() of " + text, text.equals("9") ? "9+" : text, x -> x.rule());
                emptied(c, "wedding() of " + text, text, x -> x.wedding());
            }
            emptied(c, "other() of w+", "w+", x -> x.other());
            ConfettiMinutes x = Check.town("1", "1");
            c.due("rule()", Check.text(x, "w").rule(), 0);
            c.due("THE TEXT behind rule()", x.count(13), 0);
            c.due("wedding()", Check.text(x, "n1").wedding(), 1);
            c.due("THE TEXT behind wedding()", x.count(13), 0);
            c.due("other()", Check.text(x, "0").other(), 0);
            c.due("THE TEXT behind other()", x.count(13), 0);
            c.due("laws()", Check.text(x, "1").laws(), 1);
            c.due("THE TEXT behind laws()", x.count(13), 0);
            c.due("people()", Check.text(x, "1").people(), 1);
            c.due("THE TEXT behind people()", x.count(13), 0);
        });
    }

    /** A refused call that reads THE TEXT empties it, and changes nothing else. */
    private static void emptied(Check c, String name, String text, Twins.Call call) {
        Twins twins = new Twins();
        Check.text(twins.first, text);
        twins.second.end(0);
        String answer = Twins.answerOf(twins.first, call);
        c.due(name + " is refused", answer.startsWith("-"), true);
        c.due("THE TEXT behind " + name, twins.first.count(13), 0);
        c.due(name + " changes nothing else", Twins.all(twins.first, true).equals(Twins.all(twins.second, true)), true);
    }

    private static Object[][] refusals() {
        return new Object[][] {
            ask("end(-1)", x -> x.end(-1)), ask("end(4)", x -> x.end(4)), ask("sheet(4, 0, 1, 1)", x -> x.sheet(4, 0, 1, 1)),
            ask("sheet(0, 6, 1, 1)", x -> x.sheet(0, 6, 1, 1)), ask("sheet(3, 6, 1, 1)", x -> x.sheet(3, 6, 1, 1)),
            ask("carries(4)", x -> x.carries(4)), ask("carries(-1)", x -> x.carries(-1)),
            ask("flings(4, 0)", x -> x.flings(4, 0)), ask("flings(2, 8)", x -> x.flings(2, 8)),
            ask("sweeps(4)", x -> x.sweeps(4)), ask("sweeps(-1)", x -> x.sweeps(-1)), ask("days(61)", x -> x.days(61)),
            ask("days(-1)", x -> x.days(-1)), ask("walks(4, 0)", x -> x.walks(4, 0)), ask("walks(0, 8)", x -> x.walks(0, 8)),
            ask("gives(2, 4, 0)", x -> x.gives(2, 4, 0)), ask("gives(2, 2, 0)", x -> x.gives(2, 2, 0)),
            ask("gives(4, 2, 0)", x -> x.gives(4, 2, 0)), ask("gives(2, 1, 4)", x -> x.gives(2, 1, 4)),
            ask("falls(4)", x -> x.falls(4)), ask("falls(-1)", x -> x.falls(-1)), ask("wind(4)", x -> x.wind(4)),
            ask("wind(-4)", x -> x.wind(-4)), ask("later(0, 0, 61)", x -> x.later(0, 0, 61)),
            ask("later(0, 3, 1)", x -> x.later(0, 3, 1)), ask("when(4, 0)", x -> x.when(4, 0)),
            ask("when(0, 4)", x -> x.when(0, 4)), ask("drifts(61)", x -> x.drifts(61)),
            ask("aims(2, 0, 31)", x -> x.aims(2, 0, 31)), ask("aims(4, 0, 3)", x -> x.aims(4, 0, 3)),
            ask("aims(2, 4, 3)", x -> x.aims(2, 4, 3)), ask("prays(4, 1)", x -> x.prays(4, 1)),
            ask("prays(0, 31)", x -> x.prays(0, 31)), ask("seeks(4, 1)", x -> x.seeks(4, 1)),
            ask("seeks(0, 31)", x -> x.seeks(0, 31)), ask("whole(4)", x -> x.whole(4)), ask("needs(4, 0)", x -> x.needs(4, 0)),
            ask("needs(0, 4)", x -> x.needs(0, 4)), ask("power(4)", x -> x.power(4)), ask("seen(4, 0, 0)", x -> x.seen(4, 0, 0)),
            ask("seen(0, 3, 0)", x -> x.seen(0, 3, 0)), ask("seen(0, 1, 8)", x -> x.seen(0, 1, 8)),
            ask("heard(0, 8)", x -> x.heard(0, 8)), ask("heard(4, 0)", x -> x.heard(4, 0)),
            ask("odds(4, 0, 1)", x -> x.odds(4, 0, 1)), ask("odds(0, 4, 1)", x -> x.odds(0, 4, 1)),
            ask("odds(0, 0, 11)", x -> x.odds(0, 0, 11)), ask("went(4, 0, 0)", x -> x.went(4, 0, 0)),
            ask("went(0, 4, 0)", x -> x.went(0, 4, 0)), ask("went(0, 0, 21)", x -> x.went(0, 0, 21)),
            ask("handfuls(61)", x -> x.handfuls(61)), ask("grasps(19)", x -> x.grasps(19)),
            ask("years(1, 61)", x -> x.years(1, 61)), ask("years(1, 0)", x -> x.years(1, 0)), ask("keep(3)", x -> x.keep(3)),
            ask("keep(-1)", x -> x.keep(-1)), ask("again(1)", x -> x.again(1)), ask("again(3)", x -> x.again(3)),
        };
    }

    private static void noneComesAhead() {
        edge("NONE comes ahead of other answers below 0", c -> {
            ConfettiMinutes x = Edges.calm("1;1;2", "0;0", "c1t15c2t20n1");
            c.due("a sheet of another kind, n below 0", x.sheet(4, -1, 0, 0), -1);
            c.due("a missing sheet, n above 5", x.sheet(3, 6, 0, 0), -1);
            c.due("not CARRIED, no STREET", x.flings(0, 8), -1);
            c.due("FLUNG already, no STREET", x.flings(1, -1), -1);
            c.due("he has none, like ones", x.gives(0, 0, 0), -1);
            c.due("he has none, no other one", x.gives(0, 2, 0), -1);
            c.due("FLUNG, no such one", x.aims(1, 2, 1), -1);
            c.due("FLUNG, too many DAYS", x.aims(1, 0, 31), -1);
            c.due("no RIGHT, no such one", x.when(2, 0), -1);
            c.due("not FLUNG, no such one", x.needs(2, 0), -1);
            c.due("it does not lie, no STREET", x.seen(0, 0, 8), -1);
            for (int n = 0; n < 10; n++) {
                x.seen(1, 0, 5);
            }
            c.due("it does not lie, and it is full", x.seen(0, 0, 5), -1);
        });
    }

    private static void rowStays() {
        edge("the ROW stays with each answer below 0", c -> {
            ConfettiMinutes x = Edges.calm("1;1;3", "0;0;0;1;2", "c1t15c2t20n1");
            x.line();
            Twins.Call[] calls = {y -> y.days(61), y -> Check.text(y, "x").wedding(), y -> y.later(0, 0, 61),
                y -> y.when(0, 0), y -> y.when(9, 0), y -> y.clean(), y -> y.drifts(61), y -> y.aims(0, 0, 0),
                y -> y.aims(1, 0, 0), y -> y.aims(0, 0, 31), y -> y.prays(0, 31), y -> y.seeks(0, 31), y -> y.whole(1),
                y -> y.whole(9), y -> y.needs(0, 0), y -> y.needs(0, 1), y -> y.needs(9, 0), y -> y.power(9),
                y -> y.odds(0, 0, 11), y -> Check.text(y, "w+").other(), y -> y.grasps(19), y -> y.years(1, 0),
                y -> Check.text(y, "x").laws(), y -> Check.text(y, "x").people(), y -> Check.text(y, "x").rule(),
                y -> y.sheet(0, -1, 0, 0), y -> y.carries(1), y -> y.flings(0, 0), y -> y.flings(1, 0), y -> y.sweeps(0),
                y -> y.walks(0, 0), y -> y.gives(3, 0, 0), y -> y.falls(3), y -> y.wind(0), y -> y.seen(0, 0, 0),
                y -> y.heard(9, 9), y -> y.went(9, 9, 9), y -> y.handfuls(61), y -> y.count(14)};
            for (int n = 0; n < calls.length; n++) {
                String answer = Twins.answerOf(x, calls[n]);
                c.due("answer " + n + " is below 0, not " + answer, answer.startsWith("-"), true);
                c.row("answer " + n, x, 0, 1, 2, 3, 4);
            }
            ConfettiMinutes y = Check.town("1", "");
            y.days(0);
            c.due("looks() without a BIT that lies", y.looks(), -2);
            c.due("asks() without PEOPLE", y.asks(), -2);
            y.went(0, 0, 1);
            c.due("tries() without a law", y.tries(), -2);
            c.due("undo()", y.undo(), 0);
            c.due("undo() of none", y.undo(), -1);
            c.row("those", y, 0, 0);
            ConfettiMinutes z = Edges.ruled("1", "3", "0", "c0t03");
            c.due("other() below 0", Check.text(z, "1").other(), -1);
            c.row("other() below 0", z, 0, 0);
        });
    }
}
