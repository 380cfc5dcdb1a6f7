/** Boundary cases that the Terms name of calls: the ROW, fractions, questions, refused calls; and the last call. */
public final class EdgesOfCallsTest {
    private static final Edges EDGES = new Edges("EdgesOfCallsTest");

    public static void main(String[] args) {
        fractions();
        questions();
        refusedCalls();
        belowNothing();
        emptiedTexts();
        noneComesAhead();
        rowStays();
        manyCalls();
        EDGES.end(Edges.WHAT_IT_IS, Edges.TERMS);
    }

    private static void edge(String words, Edges.Trial trial) {
        EDGES.edge(Edges.TERMS, words, trial);
    }

    private static void fractions() {
        edge("Fractions are told in lowest terms, upper and lower number (0 by 1).", c -> {
            ConfettiMinutes x = Edges.calm("3;4", "0;0;0", "c0t00n1");
            x.power(0);
            c.row("2 by 4", x, 1, 2);
            x.odds(0, 0, 5);
            c.row("none", x, 0, 1);
            x.gives(0, 1, 0);
            x.power(0);
            c.row("none by 4", x, 0, 1);
            x.power(1);
            c.row("4 by 4", x, 1, 1);
            x.odds(1, 0, 5);
            c.row("25 by 100", x, 1, 4);
            x.odds(1, 0, 0);
            c.row("100 by 100", x, 1, 1);
        });
        edge("ROW: numbers told last by a call that says so.", c -> {
            ConfettiMinutes x = new ConfettiMinutes();
            c.row("a new object", x);
            x.days(0);
            c.row("days(0)", x, 0, 0);
            x.wind(2);
            x.handfuls(3);
            x.carries(0);
            x.undo();
            c.row("calls that do not say so", x, 0, 0);
            x.line();
            c.row("a call that tells no number", x);
        });
    }

    private static void unchanged(Check c, String name, Twins.Call call, boolean withRow) {
        Twins twins = new Twins();
        Twins.answerOf(twins.first, call);
        c.due(name + " changes nothing", Twins.all(twins.first, withRow).equals(Twins.all(twins.second, withRow)), true);
    }

    private static void questions() {
        edge("Questions change nothing.", c -> {
            Object[][] questions = questionsAsked();
            for (Object[] question : questions) {
                unchanged(c, (String) question[0], (Twins.Call) question[1], false);
            }
        });
        edge("What is asked of DAYS to come is asked as if nothing else were done.", c -> {
            for (int n = 0; n <= 6; n++) {
                Twins twins = new Twins();
                int where = twins.first.later(0, 0, n);
                long lie = twins.first.row(0);
                twins.second.days(n);
                c.due("where it is in " + n, where, twins.second.bit(0, 0));
                c.due("how many lie in " + n, lie, twins.second.row(0));
            }
        });
    }

    private static Object[][] questionsAsked() {
        return new Object[][] {
            ask("law", x -> x.law(0, 5)), ask("bit", x -> x.bit(0, 0)), ask("one", x -> x.one(0, 1)),
            ask("later", x -> x.later(0, 0, 60)), ask("when", x -> x.when(0, 0)), ask("clean", x -> x.clean()),
            ask("drifts", x -> x.drifts(60)), ask("aims", x -> x.aims(2, 0, 30)), ask("prays", x -> x.prays(0, 30)),
            ask("seeks", x -> x.seeks(0, 30)), ask("whole", x -> x.whole(1)), ask("quorum", x -> x.quorum()),
            ask("awards", x -> x.awards()), ask("needs", x -> x.needs(0, 0)), ask("line", x -> x.line()),
            ask("power", x -> x.power(0)), ask("least", x -> x.least()), ask("guess", x -> x.guess()),
            ask("looks", x -> x.looks()), ask("fits", x -> x.fits()), ask("asks", x -> x.asks()),
            ask("odds", x -> x.odds(0, 0, 5)), ask("scatters", x -> x.scatters()), ask("tries", x -> x.tries()),
            ask("handfuls", x -> x.handfuls(60)), ask("grasps", x -> x.grasps(9)), ask("years", x -> x.years(7, 60)),
            ask("count", x -> x.count(3)), ask("row", x -> x.row(0)),
        };
    }

    private static Object[] ask(String name, Twins.Call call) {
        return new Object[] {name, call};
    }

    private static void refusedCalls() {
        edge("Refused calls answer NONE, or false, and change nothing but THE TEXT", c -> {
            for (Object[] refusal : refusals()) {
                Twins.Call call = (Twins.Call) refusal[1];
                String answer = Twins.answerOf(new Twins().first, call);
                c.due(refusal[0] + " is refused, not " + answer, answer.equals("-1") || answer.equals("false"), true);
                unchanged(c, (String) refusal[0], call, true);
            }
        });
    }

    private static void emptiedTexts() {
        edge("which a call that reads it empties", c -> {
            String[] texts = {"x", "1;", "9", "w+"};
            for (String text : texts) {
                emptied(c, "laws() of " + text, text, x -> x.laws());
                emptied(c, "people() of " + text, text, x -> x.people());
                emptied(c, "rule() of " + text, text.equals("9") ? "9+" : text, x -> x.rule());
                emptied(c, "wedding() of " + text, text, x -> x.wedding());
            }
            emptied(c, "other() of w+", "w+", x -> x.other());
            ConfettiMinutes x = Check.town("1", "1");
            c.due("rule()", Check.text(x, "w").rule(), 0);
            c.due("THE TEXT behind rule()", x.count(13), 0);
            c.due("wedding()", Check.text(x, "n1").wedding(), 1);
            c.due("THE TEXT behind wedding()", x.count(13), 0);
            c.due("other()", Check.text(x, "0").other(), 0);
            c.due("THE TEXT behind other()", x.count(13), 0);
            c.due("laws()", Check.text(x, "1").laws(), 1);
            c.due("THE TEXT behind laws()", x.count(13), 0);
            c.due("people()", Check.text(x, "1").people(), 1);
            c.due("THE TEXT behind people()", x.count(13), 0);
        });
    }

    private static void belowNothing() {
        edge("NONE comes ahead of other answers below 0;", c -> {
            for (Object[] refusal : otherRefusals()) {
                Twins.Call call = (Twins.Call) refusal[1];
                String answer = Twins.answerOf(new Twins().first, call);
                c.due(refusal[0] + " is refused, not " + answer, answer.equals("-2") || answer.equals("-3"), true);
                unchanged(c, (String) refusal[0], call, true);
            }
        });
    }

    private static Object[][] otherRefusals() {
        return new Object[][] {
            ask("carries(0)", x -> x.carries(0)), ask("flings(3, 0)", x -> x.flings(3, 0)),
            ask("flings(0, 0)", x -> x.flings(0, 0)), ask("sweeps(2)", x -> x.sweeps(2)),
            ask("walks(0, 3)", x -> x.walks(0, 3)), ask("gives(0, 1, 0)", x -> x.gives(0, 1, 0)),
            ask("falls(0)", x -> x.falls(0)), ask("wind(2)", x -> x.wind(2)),
            ask("sheet(0, -1, 1, 1)", x -> x.sheet(0, -1, 1, 1)), ask("when(0, 3)", x -> x.when(0, 3)),
            ask("aims(2, 0, 0)", x -> x.aims(2, 0, 0)), ask("aims(0, 0, 1)", x -> x.aims(0, 0, 1)),
            ask("whole(0)", x -> x.whole(0)), ask("needs(0, 3)", x -> x.needs(0, 3)),
            ask("seen(0, 0, 0)", x -> x.seen(0, 0, 0)),
        };
    }

    /** A refused call that reads THE TEXT empties it, and changes nothing else. */
    private static void emptied(Check c, String name, String text, Twins.Call call) {
        Twins twins = new Twins();
        Check.text(twins.first, text);
        twins.second.end(0);
        String answer = Twins.answerOf(twins.first, call);
        c.due(name + " is refused", answer.startsWith("-"), true);
        c.due("THE TEXT behind " + name, twins.first.count(13), 0);
        c.due(name + " changes nothing else", Twins.all(twins.first, true).equals(Twins.all(twins.second, true)), true);
    }

    private static Object[][] refusals() {
        return new Object[][] {
            ask("end(-1)", x -> x.end(-1)), ask("end(4)", x -> x.end(4)), ask("sheet(4, 0, 1, 1)", x -> x.sheet(4, 0, 1, 1)),
            ask("sheet(0, 6, 1, 1)", x -> x.sheet(0, 6, 1, 1)), ask("sheet(3, 6, 1, 1)", x -> x.sheet(3, 6, 1, 1)),
            ask("carries(4)", x -> x.carries(4)), ask("carries(-1)", x -> x.carries(-1)),
            ask("flings(4, 0)", x -> x.flings(4, 0)), ask("flings(2, 8)", x -> x.flings(2, 8)),
            ask("sweeps(4)", x -> x.sweeps(4)), ask("sweeps(-1)", x -> x.sweeps(-1)), ask("days(61)", x -> x.days(61)),
            ask("days(-1)", x -> x.days(-1)), ask("walks(4, 0)", x -> x.walks(4, 0)), ask("walks(0, 8)", x -> x.walks(0, 8)),
            ask("gives(2, 4, 0)", x -> x.gives(2, 4, 0)), ask("gives(2, 2, 0)", x -> x.gives(2, 2, 0)),
            ask("gives(4, 2, 0)", x -> x.gives(4, 2, 0)), ask("gives(2, 1, 4)", x -> x.gives(2, 1, 4)),
            ask("falls(4)", x -> x.falls(4)), ask("falls(-1)", x -> x.falls(-1)), ask("wind(4)", x -> x.wind(4)),
            ask("wind(-4)", x -> x.wind(-4)), ask("later(0, 0, 61)", x -> x.later(0, 0, 61)),
            ask("later(0, 3, 1)", x -> x.later(0, 3, 1)), ask("when(4, 0)", x -> x.when(4, 0)),
            ask("when(0, 4)", x -> x.when(0, 4)), ask("drifts(61)", x -> x.drifts(61)),
            ask("aims(2, 0, 31)", x -> x.aims(2, 0, 31)), ask("aims(4, 0, 3)", x -> x.aims(4, 0, 3)),
            ask("aims(2, 4, 3)", x -> x.aims(2, 4, 3)), ask("prays(4, 1)", x -> x.prays(4, 1)),
            ask("prays(0, 31)", x -> x.prays(0, 31)), ask("seeks(4, 1)", x -> x.seeks(4, 1)),
            ask("seeks(0, 31)", x -> x.seeks(0, 31)), ask("whole(4)", x -> x.whole(4)),
            ask("needs(4, 0)", x -> x.needs(4, 0)), ask("needs(0, 4)", x -> x.needs(0, 4)),
            ask("power(4)", x -> x.power(4)), ask("seen(4, 0, 0)", x -> x.seen(4, 0, 0)),
            ask("seen(0, 3, 0)", x -> x.seen(0, 3, 0)), ask("seen(0, 1, 8)", x -> x.seen(0, 1, 8)),
            ask("heard(0, 8)", x -> x.heard(0, 8)), ask("heard(4, 0)", x -> x.heard(4, 0)),
            ask("odds(4, 0, 1)", x -> x.odds(4, 0, 1)), ask("odds(0, 4, 1)", x -> x.odds(0, 4, 1)),
            ask("odds(0, 0, 11)", x -> x.odds(0, 0, 11)), ask("went(4, 0, 0)", x -> x.went(4, 0, 0)),
            ask("went(0, 4, 0)", x -> x.went(0, 4, 0)), ask("went(0, 0, 21)", x -> x.went(0, 0, 21)),
            ask("handfuls(61)", x -> x.handfuls(61)), ask("grasps(19)", x -> x.grasps(19)),
            ask("years(1, 61)", x -> x.years(1, 61)), ask("years(1, 0)", x -> x.years(1, 0)), ask("keep(3)", x -> x.keep(3)),
            ask("keep(-1)", x -> x.keep(-1)), ask("again(1)", x -> x.again(1)), ask("again(3)", x -> x.again(3)),
        };
    }

    private static void noneComesAhead() {
        edge("NONE comes ahead of other answers below 0", c -> {
            ConfettiMinutes x = Edges.calm("1;1;2", "0;0", "c1t15c2t20n1");
            c.due("a sheet of another kind, n below 0", x.sheet(4, -1, 0, 0), -1);
            c.due("a missing sheet, n above 5", x.sheet(3, 6, 0, 0), -1);
            c.due("not CARRIED, no STREET", x.flings(0, 8), -1);
            c.due("FLUNG already, no STREET", x.flings(1, -1), -1);
            c.due("he has none, like ones", x.gives(0, 0, 0), -1);
            c.due("he has none, no other one", x.gives(0, 2, 0), -1);
            c.due("FLUNG, no such one", x.aims(1, 2, 1), -1);
            c.due("FLUNG, too many DAYS", x.aims(1, 0, 31), -1);
            c.due("no RIGHT, no such one", x.when(2, 0), -1);
            c.due("not FLUNG, no such one", x.needs(2, 0), -1);
            c.due("it does not lie, no STREET", x.seen(0, 0, 8), -1);
            for (int n = 0; n < 10; n++) {
                x.seen(1, 0, 5);
            }
            c.due("it does not lie, and it is full", x.seen(0, 0, 5), -1);
        });
    }

    private static void rowStays() {
        edge("the ROW stays with each answer below 0", c -> {
            ConfettiMinutes x = Edges.calm("1;1;3", "0;0;0;1;2", "c1t15c2t20n1");
            x.line();
            Twins.Call[] calls = {y -> y.days(61), y -> Check.text(y, "x").wedding(), y -> y.later(0, 0, 61),
                y -> y.when(0, 0), y -> y.when(9, 0), y -> y.clean(), y -> y.drifts(61), y -> y.aims(0, 0, 0),
                y -> y.aims(1, 0, 0), y -> y.aims(0, 0, 31), y -> y.prays(0, 31), y -> y.seeks(0, 31), y -> y.whole(1),
                y -> y.whole(9), y -> y.needs(0, 0), y -> y.needs(0, 1), y -> y.needs(9, 0), y -> y.power(9),
                y -> y.odds(0, 0, 11), y -> Check.text(y, "w+").other(), y -> y.grasps(19), y -> y.years(1, 0),
                y -> Check.text(y, "x").laws(), y -> Check.text(y, "x").people(), y -> Check.text(y, "x").rule(),
                y -> y.sheet(0, -1, 0, 0), y -> y.carries(1), y -> y.flings(0, 0), y -> y.flings(1, 0), y -> y.sweeps(0),
                y -> y.walks(0, 0), y -> y.gives(3, 0, 0), y -> y.falls(3), y -> y.wind(0), y -> y.seen(0, 0, 0),
                y -> y.heard(9, 9), y -> y.went(9, 9, 9), y -> y.handfuls(61), y -> y.count(14)};
            for (int n = 0; n < calls.length; n++) {
                String answer = Twins.answerOf(x, calls[n]);
                c.due("answer " + n + " is below 0, not " + answer, answer.startsWith("-"), true);
                c.row("answer " + n, x, 0, 1, 2, 3, 4);
            }
            ConfettiMinutes y = Check.town("1", "");
            y.days(0);
            c.due("looks() without a BIT that lies", y.looks(), -2);
            c.due("asks() without PEOPLE", y.asks(), -2);
            y.went(0, 0, 1);
            c.due("tries() without a law", y.tries(), -2);
            c.due("undo()", y.undo(), 0);
            c.due("undo() of none", y.undo(), -1);
            c.row("those", y, 0, 0);
            ConfettiMinutes z = Edges.ruled("1", "3", "0", "c0t03");
            c.due("other() below 0", Check.text(z, "1").other(), -1);
            c.row("other() below 0", z, 0, 0);
        });
    }

    private static void manyCalls() {
        EDGES.edge(Edges.WHAT_IT_IS, "An object is used for at most 512 calls after it has been made", c -> {
            ConfettiMinutes x = new ConfettiMinutes();
            for (int n = 1; n <= 510; n++) {
                c.due("call " + n, x.days(60), 0);
            }
            c.due("call 511", x.count(3), 60 * 510);
            c.due("call 512", x.undo(), 14);
        });
    }
}
