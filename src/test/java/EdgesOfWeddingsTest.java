/** Boundary cases that promises 19, 20, 52 and 53 name: weddings, what is undone, what is kept. */
public final class EdgesOfWeddingsTest {
    private static final Edges EDGES = new Edges("EdgesOfWeddingsTest");
    private static final int LEAST = Integer.MIN_VALUE;
    private static final int MOST = Integer.MAX_VALUE;
    /** A WEDDING of 60 signs. */
    private static final String SIXTY = "n0".repeat(30);

    public static void main(String[] args) {
        weddingShapes();
        weddingActs();
        weddingFaults();
        undo();
        undoKeeps();
        undoForgets();
        keep();
        again();
        EDGES.end(19, 20, 52, 53);
    }

    /** What wedding() answers in a town of two LAWS, none of them CARRIED, and two of PEOPLE in STREET 0. */
    private static int wed(String acts) {
        return Check.text(Check.town("1;2", "0;0"), acts).wedding();
    }

    /** 1 if one of the acts is refused, as the ROW tells it. */
    private static long refused(String acts) {
        ConfettiMinutes x = Check.town("1;2", "0;0");
        Check.text(x, acts).wedding();
        return x.row(0);
    }

    private static void weddingShapes() {
        EDGES.edge(19, "n and a digit (days())", c -> {
            c.due("n0", wed("n0"), 1);
            c.due("n9", wed("n9"), 1);
            c.due("n:", wed("n:"), -2);
            c.due("n/", wed("n/"), -2);
            c.due("n-1", wed("n-1"), -2);
            c.due("n10", wed("n10"), -3);
        });
        EDGES.edge(19, "c and a digit (carries())", c -> {
            c.due("c0", wed("c0"), 1);
            c.due("c2 is refused", refused("c2"), 1);
            c.due("c9 is refused", refused("c9"), 1);
            c.due("c:", wed("c:"), -2);
        });
        EDGES.edge(19, "t, a digit and a digit 0 .. 7 (flings())", c -> {
            c.due("t00", wed("c0t00"), 2);
            c.due("t07", wed("c0t07"), 2);
            c.due("t08", wed("c0t08"), -5);
            c.due("t97 is refused", refused("t97"), 1);
            c.due("t:0", wed("t:0"), -2);
        });
        EDGES.edge(19, "s and a digit (sweeps())", c -> {
            c.due("s0", wed("c0t00s0"), 3);
            c.due("s9 is refused", refused("s9"), 1);
            c.due("s:", wed("s:"), -2);
        });
        EDGES.edge(19, "p, a digit and a digit 0 .. 7 (walks())", c -> {
            c.due("p07", wed("p07"), 1);
            c.due("p07p00", wed("p07p00"), 2);
            c.due("p08", wed("p08"), -3);
            c.due("p27 is refused", refused("p27"), 1);
            c.due("p97 is refused", refused("p97"), 1);
        });
        EDGES.edge(19, "g and three digits (gives())", c -> {
            c.due("g010", wed("w+0c0t00n1g010"), 5);
            c.due("g999 is refused", refused("g999"), 1);
            c.due("g01", wed("g01"), -4);
            c.due("g01x", wed("g01x"), -4);
            c.due("g:10", wed("g:10"), -2);
            c.due("g0:0", wed("g0:0"), -3);
            c.due("g01:", wed("g01:"), -4);
        });
        EDGES.edge(19, "l and a digit (falls())", c -> {
            c.due("l0", wed("w+0c0t00n1l0"), 5);
            c.due("l9 is refused", refused("l9"), 1);
            c.due("l:", wed("l:"), -2);
        });
        EDGES.edge(19, "w, + or - and a digit 0 .. 3 (wind())", c -> {
            c.due("w+3w-3w+0", wed("w+3w-3w+0"), 3);
            c.due("w-0 is w+0", refused("w+0w-0"), 1);
            c.due("w+1 is so at first", refused("w+1"), 1);
            c.due("w-1 is not", refused("w-1"), 0);
            c.due("w+4", wed("w+4"), -3);
            c.due("w-4", wed("w-4"), -3);
            c.due("w1", wed("w1"), -2);
            c.due("w*1", wed("w*1"), -2);
            c.due("w,1", wed("w,1"), -2);
        });
    }

    private static void weddingActs() {
        EDGES.edge(19, "THE TEXT tells A WEDDING (an empty one: nothing)", c -> {
            ConfettiMinutes x = Edges.calm("2", "0", "c0t00n1");
            c.due("an empty one", Check.text(x, "").wedding(), 0);
            c.row("an empty one", x, 0, 1);
            c.due("deeds", x.count(11), 1);
        });
        EDGES.edge(19, "they are done one by one, till one is refused (it answers below 0): how many were done;", c -> {
            ConfettiMinutes x = Check.town("1;2", "0;0");
            c.due("the first is refused", Check.text(x, "t00c0n1").wedding(), 0);
            c.due("none behind it is done", x.count(4) + x.count(3), 0);
            c.due("the third is refused", Check.text(x, "c0n1w+1c1n1").wedding(), 2);
            c.due("CARRIED", x.count(4), 1);
            c.due("DAY", x.count(3), 1);
            c.due("an answer -3 is below 0", Check.text(x, "t00t00n1").wedding(), 1);
            c.due("an answer 0 is not", Check.text(x, "s0n0c1").wedding(), 3);
            c.due("the last is refused", Check.text(x, "n1n1s0").wedding(), 2);
        });
        EDGES.edge(19, "the ROW: 1 if one was refused, else 0; how many BITS are HELD then.", c -> {
            ConfettiMinutes x = Check.town("1;4", "0;0");
            Check.text(x, "n1").wedding();
            c.row("none", x, 0, 0);
            Check.text(x, "w+0c1t10n2").wedding();
            c.row("all of four", x, 0, 4);
            Check.text(x, "l0n0l0").wedding();
            c.row("refused", x, 1, 2);
            Check.text(x, "c1").wedding();
            c.row("refused at once", x, 1, 2);
        });
    }

    private static void weddingFaults() {
        EDGES.edge(19, "-1 - p: the sign at p can't stand there", c -> {
            String[] texts = {"x", " ", "N1", "1", "n1x", "n1 n1", "n1;n1", "tx0", "t0x", "gx00", "g0x0", "g00x",
                "wx0", "w+x"};
            int[] due = {-1, -1, -1, -1, -3, -3, -3, -2, -3, -2, -3, -4, -2, -3};
            for (int t = 0; t < texts.length; t++) {
                c.due(texts[t], wed(texts[t]), due[t]);
            }
        });
        EDGES.edge(19, "(its end, if it ends too early;", c -> {
            String[] texts = {"n", "c", "s", "l", "t", "t0", "p", "p0", "g", "g0", "g01", "w", "w+", "w-", "n1n", "n1t0"};
            int[] due = {-2, -2, -2, -2, -2, -3, -2, -3, -2, -3, -4, -2, -3, -3, -4, -5};
            for (int t = 0; t < texts.length; t++) {
                c.due(texts[t], wed(texts[t]), due[t]);
            }
            c.due("60 signs", wed(SIXTY.substring(0, 58) + "t0"), -61);
        });
        EDGES.edge(19, "60, if it has more and the first 60 could go on or end);", c -> {
            c.due("60 signs", wed(SIXTY), 30);
            c.due("61, as 60 could end", wed(SIXTY + "n"), -61);
            c.due("61, another sign", wed(SIXTY + "x"), -61);
            c.due("62", wed(SIXTY + "n0"), -61);
            c.due("61, as 60 could go on", wed(SIXTY.substring(0, 58) + "t00"), -61);
            c.due("80", wed(SIXTY + "n0".repeat(10)), -61);
            c.due("a fault in the 60th", wed(SIXTY.substring(0, 59) + "xn0"), -60);
            c.due("a fault in the first", wed("x" + SIXTY), -1);
        });
        EDGES.edge(19, "nothing is done then.", c -> {
            ConfettiMinutes x = Check.town("1;2", "0;0");
            x.line();
            String[] texts = {"n1c0p07w+3x", "n1c0p07w+", SIXTY.replace('0', '1') + "n", "c0:"};
            for (String text : texts) {
                c.due(text, Check.text(x, text).wedding() < 0, true);
                c.due("DAY", x.count(3), 0);
                c.due("CARRIED", x.count(4), 0);
                c.due("WIND", x.count(2), 11);
                c.due("STREET", x.one(0, 0), 0);
                c.due("deeds", x.count(11), 0);
                c.row(text, x, 0, 1);
            }
        });
    }

    private static void undo() {
        EDGES.edge(20, "(of 15 that are kept, the latest ones;", c -> {
            for (int deeds = 14; deeds <= 40; deeds++) {
                ConfettiMinutes x = Check.town("", "0");
                for (int n = 1; n <= deeds; n++) {
                    x.days(1);
                }
                int kept = Math.min(15, deeds);
                c.due("kept of " + deeds, x.count(11), kept);
                for (int left = kept - 1; left >= 0; left--) {
                    c.due("undo()", x.undo(), left);
                }
                c.due("one more", x.undo(), -1);
                c.due("DAY", x.count(3), deeds - kept);
            }
        });
        EDGES.edge(20, "such as were done;", c -> {
            ConfettiMinutes x = Edges.calm("1", "0", "");
            int deeds = x.count(11);
            int[] refused = {x.carries(1), x.flings(0, 0), x.sweeps(0), x.days(61), x.walks(0, 0), x.gives(0, 0, 0),
                x.falls(0), x.wind(0), Check.text(x, "x").wedding(), Check.text(x, "c9").wedding()};
            for (int n = 0; n < refused.length; n++) {
                c.due("refused " + n, refused[n] <= 0, true);
            }
            c.due("deeds", x.count(11), deeds);
        });
        EDGES.edge(20, "days(0), too;", c -> {
            ConfettiMinutes x = new ConfettiMinutes();
            x.days(0);
            c.due("deeds", x.count(11), 1);
            c.due("undo()", x.undo(), 0);
            Check.text(x, "n0").wedding();
            c.due("deeds", x.count(11), 1);
        });
        EDGES.edge(20, "wedding() of which one act was done, as one)", c -> {
            ConfettiMinutes x = Check.town("1", "0");
            Check.text(x, "").wedding();
            c.due("an empty one", x.count(11), 0);
            Check.text(x, "c9n1").wedding();
            c.due("one of which none was done", x.count(11), 0);
            Check.text(x, "n1c9n1").wedding();
            c.due("one of which one was done", x.count(11), 1);
            Check.text(x, "n1n1n1n1n1").wedding();
            c.due("one of which all were done", x.count(11), 2);
            c.due("undo()", x.undo(), 1);
            c.due("DAY", x.count(3), 1);
            c.due("undo()", x.undo(), 0);
            c.due("DAY", x.count(3), 0);
        });
        EDGES.edge(20, "how many are left that can be. Refused: none.", c -> {
            ConfettiMinutes x = new ConfettiMinutes();
            c.due("at first", x.undo(), -1);
            x.wind(3);
            x.wind(2);
            c.due("of two", x.undo(), 1);
            c.due("of one", x.undo(), 0);
            c.due("of none", x.undo(), -1);
            c.due("WIND", x.count(2), 11);
        });
    }

    private static void undoKeeps() {
        EDGES.edge(20, "(all of LAWS but how many BITS, of PEOPLE, of BITS, WIND, DAY are as ahead of it)", c -> {
            ConfettiMinutes x = Edges.calm("2;1", "0;4", "c0t00n1");
            Check.text(x, "n1c1t17s0p05w-3").wedding();
            c.due("undo()", x.undo(), 1);
            c.due("CARRIED", x.count(4), 1);
            c.due("FLUNG", x.count(5), 1);
            c.due("HELD", x.bit(0, 0), 10);
            c.due("lies", x.bit(0, 1), 0);
            c.due("not FLUNG", x.bit(1, 0), 20);
            c.due("STREET", x.one(0, 0), 0);
            c.due("WIND", x.count(2), 10);
            c.due("DAY", x.count(3), 1);
            c.due("BITS", x.law(0, 0), 2);
        });
        EDGES.edge(20, "The latest of carries() .. wind() or wedding() (of 15", c -> {
            Twins.Call[] deeds = {x -> x.carries(1), x -> x.flings(1, 7), x -> x.days(2), x -> x.walks(0, 5),
                x -> x.gives(1, 2, 0), x -> x.falls(2), x -> x.wind(-3), x -> Check.text(x, "w+2n1w+3").wedding(),
                x -> x.sweeps(0)};
            ConfettiMinutes x = Edges.calm("4;2", "0;0;3", "c0t00n1w+1");
            String[] ahead = new String[deeds.length];
            for (int n = 0; n < deeds.length; n++) {
                ahead[n] = town(x);
                c.due("deed " + n + " is done", Long.parseLong(Twins.answerOf(x, deeds[n])) >= 0, true);
                c.due("deed " + n + " changes something", town(x).equals(ahead[n]), false);
            }
            for (int n = deeds.length - 1; n >= 0; n--) {
                c.due("undo() of deed " + n, x.undo(), n + 1);
                c.due("all is as ahead of deed " + n, town(x).equals(ahead[n]), true);
            }
        });
        EDGES.edge(20, "The latest of carries() .. wind() or wedding()", c -> {
            ConfettiMinutes x = Edges.ruled("1", "0", "2", "c0t00");
            x.days(1);
            Check.text(x, "3").rule();
            x.seen(0, 0, 5);
            x.heard(0, 0);
            x.went(0, 0, 0);
            x.keep(0);
            x.sheet(2, 1, 4, 0);
            x.line();
            x.sign(0);
            c.due("others are no deeds", x.count(11), 2);
            x.undo();
            c.due("DAY", x.count(3), 0);
            c.due("THE RULE stays", x.later(0, 0, 1), 3);
            c.due("what was seen stays", x.count(8), 1);
            c.due("what was heard stays", x.count(9), 1);
            c.due("what was told stays", x.count(10), 1);
            c.due("THE TEXT stays", x.count(13), 4);
            c.due("what is kept stays", x.again(0), true);
            c.due("DAY as it was kept", x.count(3), 1);
        });
    }

    /** All that undo() brings back, in a town of two LAWS of four BITS and two, and three of PEOPLE. */
    private static String town(ConfettiMinutes x) {
        StringBuilder s = new StringBuilder();
        for (int what = 2; what <= 5; what++) {
            s.append(x.count(what)).append(' ');
        }
        for (int bit = 0; bit < 4; bit++) {
            s.append(x.bit(0, bit)).append(' ').append(x.bit(1, bit / 2)).append(' ');
        }
        return s.append(x.one(0, 0)).append(x.one(1, 0)).append(x.one(2, 0)).toString();
    }

    private static void undoForgets() {
        EDGES.edge(20, "(laws(), people() and again() forget them, if they are not refused;", c -> {
            ConfettiMinutes x = Check.town("1", "0");
            x.days(1);
            Check.text(x, "5").laws();
            Check.text(x, "8").people();
            x.again(0);
            c.due("refused ones do not", x.count(11), 1);
            Check.text(x, "4").laws();
            c.due("laws()", x.count(11), 0);
            c.due("undo()", x.undo(), -1);
            x.days(1);
            Check.text(x, "7").people();
            c.due("people()", x.count(11), 0);
            c.due("undo()", x.undo(), -1);
            x.keep(0);
            x.days(1);
            x.again(0);
            c.due("again()", x.count(11), 0);
            c.due("undo()", x.undo(), -1);
            c.due("DAY", x.count(3), 2);
        });
        EDGES.edge(20, "those that read an empty text do not.)", c -> {
            ConfettiMinutes x = Check.town("1;1;1;1;1", "0;0;0;0;0");
            x.days(1);
            Check.text(x, "").laws();
            c.due("laws()", x.count(11), 1);
            Check.text(x, "").people();
            c.due("people()", x.count(11), 1);
            Check.text(x, "").rule();
            Check.text(x, "").other();
            c.due("rule(), other()", x.count(11), 1);
        });
    }

    private static void keep() {
        EDGES.edge(52, "What undo() brings back is kept under a number 0 .. 2: true.", c -> {
            ConfettiMinutes x = Edges.calm("2;1", "0;4", "c0t00n1");
            for (int i = 0; i <= 2; i++) {
                c.due("keep(" + i + ")", x.keep(i), true);
                x.days(1);
            }
            Check.text(x, "c1t17s0p05w-3").wedding();
            c.due("again(0)", x.again(0), true);
            c.due("DAY", x.count(3), 1);
            c.due("HELD", x.bit(0, 0), 10);
            c.due("lies", x.bit(0, 1), 0);
            c.due("not FLUNG", x.bit(1, 0), 20);
            c.due("STREET", x.one(0, 0), 0);
            c.due("WIND", x.count(2), 10);
            c.due("CARRIED", x.count(4), 1);
            c.due("again(2)", x.again(2), true);
            c.due("DAY", x.count(3), 3);
            c.due("HELD", x.bit(0, 1), 10);
            c.due("again(1)", x.again(1), true);
            c.due("DAY", x.count(3), 2);
            c.due("keep(0) at another time", x.keep(0), true);
            x.days(9);
            x.again(0);
            c.due("DAY", x.count(3), 2);
        });
        EDGES.edge(52, "Refused: others.", c -> {
            ConfettiMinutes x = new ConfettiMinutes();
            for (int i : new int[] {-1, 3, 32, LEAST, MOST}) {
                c.due("keep(" + i + ")", x.keep(i), false);
                c.due("again(" + i + ")", x.again(i), false);
            }
            c.due("again(0)", x.again(0), false);
        });
    }

    private static void again() {
        EDGES.edge(53, "It is as it was kept under a number.", c -> {
            ConfettiMinutes x = Edges.ruled("1", "0", "2", "c0t00");
            x.keep(2);
            x.days(1);
            Check.text(x, "3").rule();
            x.heard(0, 0);
            x.keep(1);
            c.due("again(2)", x.again(2), true);
            c.due("DAY", x.count(3), 0);
            c.due("THE RULE stays", x.later(0, 0, 1), 3);
            c.due("what was heard stays", x.count(9), 1);
            c.due("again(2) once more", x.again(2), true);
            c.due("another number's stays", x.again(1), true);
            c.due("DAY", x.count(3), 1);
        });
        EDGES.edge(53, "Refused: nothing kept", c -> {
            ConfettiMinutes x = new ConfettiMinutes();
            x.days(1);
            for (int i = -1; i <= 3; i++) {
                c.due("again(" + i + ")", x.again(i), false);
            }
            x.keep(1);
            x.days(1);
            c.due("again(0)", x.again(0), false);
            c.due("again(2)", x.again(2), false);
            c.due("deeds", x.count(11), 2);
            c.due("DAY", x.count(3), 2);
            c.due("again(1)", x.again(1), true);
        });
        EDGES.edge(53, "LAWS or PEOPLE came since.", c -> {
            ConfettiMinutes x = Check.town("1", "0");
            for (int i = 0; i <= 2; i++) {
                x.keep(i);
            }
            Check.text(x, "").laws();
            Check.text(x, "5").laws();
            Check.text(x, "").people();
            Check.text(x, "0;").people();
            c.due("none came", x.again(0), true);
            Check.text(x, "2").laws();
            for (int i = 0; i <= 2; i++) {
                c.due("LAWS came, again(" + i + ")", x.again(i), false);
            }
            c.due("LAWS", x.count(0), 2);
            x.keep(1);
            c.due("kept since", x.again(1), true);
            c.due("not kept since", x.again(0), false);
            Check.text(x, "3").people();
            c.due("PEOPLE came", x.again(1), false);
            c.due("PEOPLE", x.count(1), 2);
        });
    }
}
