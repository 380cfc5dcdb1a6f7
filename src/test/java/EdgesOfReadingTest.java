/** Boundary cases that promises 1 to 10 name: THE TEXT, LAWS, PEOPLE, THE RULE, what they are, sheets. */
public final class EdgesOfReadingTest {
    private static final Edges EDGES = new Edges("EdgesOfReadingTest");
    /** 40 signs that may end. */
    private static final String FORTY = "1+".repeat(18) + "w+10";

    public static void main(String[] args) {
        newObject();
        sign();
        end();
        laws();
        lawsTooLong();
        people();
        peopleTooLong();
        rule();
        rulesOneByOne();
        ruleTooLong();
        law();
        bit();
        one();
        sheetEntries();
        sheetRefused();
        sheetIsNoDeed();
        EDGES.end(1, 2, 3, 4, 5, 6, 7, 8, 9, 10);
    }

    private static int laws(String text) {
        return Check.text(new ConfettiMinutes(), text).laws();
    }

    private static int people(String text) {
        return Check.text(new ConfettiMinutes(), text).people();
    }

    private static int rule(String text) {
        return Check.text(new ConfettiMinutes(), text).rule();
    }

    private static void newObject() {
        EDGES.edge(1, "No LAWS, no PEOPLE.", c -> {
            ConfettiMinutes x = new ConfettiMinutes();
            c.due("LAWS", x.count(0), 0);
            c.due("PEOPLE", x.count(1), 0);
            c.noSuch("law(0, 0)", () -> x.law(0, 0));
            c.noSuch("bit(0, 0)", () -> x.bit(0, 0));
            c.noSuch("one(0, 0)", () -> x.one(0, 0));
            c.noSuch("row(0)", () -> x.row(0));
            for (int what = 3; what <= 13; what++) {
                c.due("count(" + what + ")", x.count(what), 0);
            }
            c.due("carries(0)", x.carries(0), -1);
            c.due("walks(0, 0)", x.walks(0, 0), -1);
            c.due("undo()", x.undo(), -1);
            c.due("again(0)", x.again(0), false);
            c.due("line()", x.line(), 0);
        });
    }

    private static void sign() {
        EDGES.edge(2, "Four signs come behind THE TEXT, of v the highest byte first: how many it has.", c -> {
            ConfettiMinutes x = new ConfettiMinutes();
            c.due("of none", x.sign(0x323B3300), 4);
            x.end(3);
            c.due("behind three", x.sign(0x3B340000), 7);
            x.end(5);
            c.due("2;3;4", x.laws(), 3);
            c.due("the first", x.law(0, 0), 2);
            c.due("the last", x.law(2, 0), 4);
            c.due("of none again", x.sign(-1), 4);
            c.due("a sign 255 is no digit", x.laws(), -1);
            x.sign(0x31000000);
            c.due("a sign 0 is a sign", x.laws(), -2);
            x.sign(0xB1000000);
            x.end(1);
            c.due("a sign 177 is not 49", x.laws(), -1);
        });
        EDGES.edge(2, "Refused: there would be more than 80.", c -> {
            for (int n = 70; n <= 80; n++) {
                ConfettiMinutes x = Edges.signs('w', n);
                c.due("behind " + n, x.sign(0x77777777), n + 4 > 80 ? -1 : n + 4);
                c.due("signs behind that", x.count(13), n + 4 > 80 ? n : n + 4);
            }
            ConfettiMinutes x = Edges.signs('3', 80);
            x.sign(0x31313131);
            x.end(1);
            c.due("laws()", x.laws(), 1);
            c.due("THE TEXT stayed", x.law(0, 0), 3);
        });
    }

    private static void end() {
        EDGES.edge(3, "THE TEXT has its first n signs alone: true;", c -> {
            ConfettiMinutes x = Edges.signs('4', 8);
            c.due("all", x.end(8), true);
            c.due("all stay", x.count(13), 8);
            c.due("one", x.end(1), true);
            c.due("one stays", x.count(13), 1);
            c.due("it is the first", x.laws(), 1);
            c.due("none of none", x.end(0), true);
            x.sign(0x34343434);
            c.due("none", x.end(0), true);
            c.due("none stays", x.count(13), 0);
        });
        EDGES.edge(3, "false if it has not so many", c -> {
            ConfettiMinutes x = Edges.signs('4', 4);
            c.due("one more", x.end(5), false);
            c.due("the most int", x.end(Integer.MAX_VALUE), false);
            c.due("THE TEXT stays", x.count(13), 4);
            x.end(1);
            c.due("what was cut does not come back", x.end(2), false);
            x.end(0);
            c.due("one of none", x.end(1), false);
        });
        EDGES.edge(3, "or n is below 0", c -> {
            ConfettiMinutes x = Edges.signs('4', 4);
            c.due("-1", x.end(-1), false);
            c.due("the least int", x.end(Integer.MIN_VALUE), false);
            c.due("THE TEXT stays", x.count(13), 4);
        });
    }

    private static void laws() {
        EDGES.edge(4, "(an empty one: nothing)", c -> {
            c.due("no LAWS", laws(""), 0);
            ConfettiMinutes x = Check.town("1;1;1;1;1", "");
            c.due("no room", Check.text(x, "").laws(), 0);
            c.due("LAWS", x.count(0), 5);
        });
        EDGES.edge(4, "-1 - p: the sign at p can't stand there", c -> {
            String[] texts = {"0", "5", "x", ";", " 1", "12", "1:", "1;;", "1;0", "1;5", "1;2:3", "1;2;3;4;5", "1;2;3;4x"};
            int[] due = {-1, -1, -1, -1, -1, -2, -2, -3, -3, -3, -4, -9, -8};
            for (int t = 0; t < texts.length; t++) {
                c.due(texts[t], laws(texts[t]), due[t]);
            }
        });
        EDGES.edge(4, "(its end, if it ends too early;", c -> {
            c.due("1;", laws("1;"), -3);
            c.due("1;2;", laws("1;2;"), -5);
            c.due("1;2;3;4;", laws("1;2;3;4;"), -9);
        });
        EDGES.edge(4, "the first sign of a LINE for which there is no room;", c -> {
            ConfettiMinutes x = Check.town("1;1;1", "");
            c.due("a third", Check.text(x, "1;2;3").laws(), -5);
            c.due("a third that could not stand anyway", Check.text(x, "1;2;x").laws(), -5);
            c.due("a fault ahead of it", Check.text(x, "1;x;3").laws(), -3);
            c.due("more than nine signs", Check.text(x, "1;2;3;4;1;2").laws(), -5);
            c.due("as many as there is room for", Check.text(x, "4;4").laws(), 2);
            c.due("no room at all", Check.text(x, "1").laws(), -1);
            c.due("no room at all", Check.text(x, "1;1").laws(), -1);
            c.due("LAWS", x.count(0), 5);
        });
        EDGES.edge(4, "Nothing of it comes, if a LINE can't.", c -> {
            ConfettiMinutes x = Check.town("1;2;3", "0");
            x.walks(0, 1);
            x.keep(0);
            String[] texts = {"4;x", "4;", "4;4;4", "4;4;4;4;4;4"};
            for (String text : texts) {
                c.due(text, Check.text(x, text).laws() < 0, true);
                c.due("LAWS behind " + text, x.count(0), 3);
                c.due("deeds behind " + text, x.count(11), 1);
            }
            c.due("what is kept", x.again(0), true);
        });
    }

    private static void lawsTooLong() {
        EDGES.edge(4, "9, if it has more and the first 9 could go on or end)", c -> {
            c.due("nine signs", laws("1;2;3;4;1"), 5);
            c.due("ten, as it could go on", laws("1;2;3;4;1;"), -10);
            c.due("ten, another sign", laws("1;2;3;4;1x"), -10);
            c.due("eleven", laws("1;2;3;4;1;1"), -10);
            c.due("eighty", laws("1;".repeat(40)), -10);
            c.due("a fault in the ninth", laws("1;2;3;4;x;1"), -9);
            c.due("a fault in the eighth", laws("1;2;3;4:1;1"), -8);
            c.due("a fault in the first", laws("x;2;3;4;1;1"), -1);
            ConfettiMinutes x = new ConfettiMinutes();
            Check.text(x, "1;2;3;4;1;").laws();
            c.due("nothing of it comes", x.count(0), 0);
        });
    }

    private static void people() {
        EDGES.edge(5, "(an empty one: nothing)", c -> {
            c.due("no PEOPLE", people(""), 0);
            ConfettiMinutes x = Check.town("", "0;0;0;0;0");
            c.due("no room", Check.text(x, "").people(), 0);
            c.due("PEOPLE", x.count(1), 5);
        });
        EDGES.edge(5, "-1 - p: likewise.", c -> {
            String[] texts = {"8", "9", "/", "x", ";", "00", "0;;", "0;8", "0;7:3", "0;", "0;1;", "0;1;2;3;"};
            int[] due = {-1, -1, -1, -1, -1, -2, -3, -3, -4, -3, -5, -9};
            for (int t = 0; t < texts.length; t++) {
                c.due(texts[t], people(texts[t]), due[t]);
            }
            ConfettiMinutes x = Check.town("1", "0;0;0");
            x.walks(0, 1);
            x.keep(0);
            c.due("a third without room", Check.text(x, "1;2;3").people(), -5);
            c.due("a third without room that could not stand anyway", Check.text(x, "1;2;x").people(), -5);
            c.due("nothing of it comes", x.count(1), 3);
            c.due("deeds", x.count(11), 1);
            c.due("what is kept", x.again(0), true);
            c.due("as many as there is room for", Check.text(x, "7;6").people(), 2);
            c.due("no room at all", Check.text(x, "1").people(), -1);
            c.due("PEOPLE", x.count(1), 5);
        });
    }

    private static void peopleTooLong() {
        EDGES.edge(5, "THE TEXT tells of PEOPLE (an empty one: nothing): how many LINES. -1 - p: likewise.", c -> {
            c.due("nine signs", people("0;7;0;7;0"), 5);
            c.due("ten", people("0;7;0;7;0;"), -10);
            c.due("ten, another sign", people("0;7;0;7;00"), -10);
            c.due("eighty", people("0;".repeat(40)), -10);
            c.due("a fault in the ninth", people("0;7;0;7;8;0"), -9);
            c.due("a fault in the first", people("8;7;0;7;0;0"), -1);
        });
    }

    private static void rule() {
        EDGES.edge(6, "(an empty one: none): 0.", c -> {
            ConfettiMinutes x = Edges.ruled("1", "", "3", "c0t00");
            c.due("3", x.later(0, 0, 1), 3);
            c.due("an empty one", Check.text(x, "").rule(), 0);
            c.due("by WIND then", x.later(0, 0, 1), 1);
        });
        EDGES.edge(6, "-1 - p: the sign at p can't stand there", c -> {
            String[] texts = {"/", ":", "1:", "w:", ")", "*", "+1", "<1", "x", "W", " w", "w w", "ww", "w(", "1(",
                "(w)w", "(w)(", "()", "(+", "w)", "(w))", "1<2<3", "1234", "w+*", "w+)", "w<=", "w-)", "1;", "1/", "(((((", "-)", "--x"};
            int[] due = {-1, -1, -2, -2, -1, -1, -1, -1, -1, -1, -1, -2, -2, -2, -2, -4, -4, -2, -2, -2,
                -4, -4, -4, -3, -3, -3, -3, -2, -3, -5, -2, -3};
            for (int t = 0; t < texts.length; t++) {
                c.due(texts[t], rule(texts[t]), due[t]);
            }
            ConfettiMinutes x = Edges.ruled("1", "", "3", "c0t00");
            Check.text(x, "2)").rule();
            c.due("THE RULE stays", x.later(0, 0, 1), 3);
        });
        EDGES.edge(6, "(its end, if it ends too early;", c -> {
            String[] texts = {"w+", "w*", "w<", "-", "(", "((((", "(w", "(w+1", "1-(", "(w)/", "((w)"};
            int[] due = {-3, -3, -3, -2, -2, -5, -3, -5, -4, -5, -5};
            for (int t = 0; t < texts.length; t++) {
                c.due(texts[t], rule(texts[t]), due[t]);
            }
            c.due("40 signs that could go on", rule(FORTY.substring(0, 39) + "+"), -41);
            c.due("40 signs with two ( that are open", rule("((" + FORTY.substring(2)), -41);
            c.due("39 signs with a ( that is open", rule("(" + FORTY.substring(2)), -40);
        });
    }

    private static void rulesOneByOne() {
        EDGES.edge(6, "THE TEXT is THE RULE", c -> {
            String[] texts = {"1<2", "2<1", "1<2<3", "(1<2)+1", "1<2", "-", "2", "((((3", "((((3))))", "(((((3", "((((1))))",
                "12", "1234", "3", "4*(1+", "1-2+3", "(1<2", "(1<2)*5", "1<(2<3", "6-(2>1)", "-(", "4", "9-2*", "2",
                "-1", "3", "2"};
            int[] due = {1, 0, -1, 2, 1, -1, 2, -1, 3, -1, 1,
                7, -1, 3, -1, 2, -1, 5, -1, 5, -1, 4, -1, 2,
                0, 3, 2};
            ConfettiMinutes x = Edges.ruled("1", "", "", "c0t00");
            int street = 1;
            for (int t = 0; t < texts.length; t++) {
                c.due(texts[t] + " is refused", Check.text(x, texts[t]).rule() < 0, due[t] < 0);
                street = due[t] < 0 ? street : due[t];
                c.due("a BIT behind " + texts[t], x.later(0, 0, 1), street);
            }
        });
    }

    private static void ruleTooLong() {
        EDGES.edge(6, "40, if it has more and the first 40 could go on or end)", c -> {
            c.due("40 signs", FORTY.length(), 40);
            c.due("40 that end", rule(FORTY), 0);
            c.due("41, as 40 could end", rule(FORTY + "+"), -41);
            c.due("41, another sign", rule(FORTY + "x"), -41);
            c.due("41 to be a number of three digits", rule(FORTY + "0"), -41);
            c.due("42, as 40 could go on", rule(FORTY.substring(0, 39) + "+w"), -41);
            c.due("41 with a ( that is open till then", rule("-(" + FORTY.substring(2) + ")"), -41);
            c.due("80", rule(FORTY + FORTY), -41);
            c.due("a fault in the 40th", rule(FORTY.substring(0, 39) + "x1"), -40);
            c.due("a fault in the first", rule(")" + FORTY), -1);
        });
    }

    private static void law() {
        EDGES.edge(7, "1: 1 if it is CARRIED, 2: 1 if it is FLUNG", c -> {
            ConfettiMinutes x = Check.town("1;1;1;1;1", "");
            Check.text(x, "c0c4t47").wedding();
            int[] carried = {1, 0, 0, 0, 1};
            for (int law = 0; law < 5; law++) {
                c.due("CARRIED " + law, x.law(law, 1), carried[law]);
                c.due("FLUNG " + law, x.law(law, 2), law == 4 ? 1 : 0);
            }
        });
        EDGES.edge(7, "3: BITS that lie (bits), 4: how many BITS are HELD", c -> {
            ConfettiMinutes x = Edges.calm("4;4", "0", "c1t10");
            int[] lie = {15, 14, 12, 8, 0};
            for (int held = 0; held <= 4; held++) {
                c.due("lie", x.law(1, 3), lie[held]);
                c.due("HELD", x.law(1, 4), held);
                c.due("of another LAW lie", x.law(0, 3), 0);
                c.due("of another LAW are HELD", x.law(0, 4), 0);
                x.days(1);
            }
        });
        EDGES.edge(7, "3: BITS that lie (bits)", c -> {
            ConfettiMinutes x = Edges.calm("4;4;4;1", "", "c0c2t00t20");
            int[] lie = {15, 0, 15, 0};
            for (int law = 0; law < 4; law++) {
                c.due("BITS of LAW " + law + " that lie", x.law(law, 3), lie[law]);
            }
            Check.text(x, "c1c3t10t30").wedding();
            c.due("BITS of LAW 1 that lie", x.law(1, 3), 15);
            c.due("BITS of LAW 3 that lie", x.law(3, 3), 1);
        });
        EDGES.edge(7, "5: who has a RIGHT by it (5: nobody)", c -> {
            ConfettiMinutes x = Edges.calm("2;1", "1;1;1;1;0", "c0t00n1");
            c.due("half", x.law(0, 5), 5);
            x.days(1);
            c.due("the last of PEOPLE", x.law(0, 5), 4);
            c.due("not FLUNG", x.law(1, 5), 5);
            x.gives(4, 0, 0);
            c.due("the first of PEOPLE", x.law(0, 5), 0);
        });
        EDGES.edge(7, "NoSuchElementException: none such, another what.", c -> {
            ConfettiMinutes x = Check.town("3;3;3;3;3", "0");
            int[][] none = {{-1, 0}, {5, 0}, {Integer.MIN_VALUE, 0}, {Integer.MAX_VALUE, 0}, {0, -1}, {0, 6}, {4, 6},
                {0, Integer.MIN_VALUE}, {0, Integer.MAX_VALUE}, {5, 6}};
            for (int[] a : none) {
                c.noSuch("law(" + a[0] + ", " + a[1] + ")", () -> x.law(a[0], a[1]));
            }
            c.due("law(4, 0)", x.law(4, 0), 3);
            c.due("law(4, 5)", x.law(4, 5), 5);
            ConfettiMinutes fewer = Check.town("3", "0");
            c.noSuch("a second of one", () -> fewer.law(1, 0));
        });
    }

    private static void bit() {
        EDGES.edge(8, "STREET in which it lies, 10 and who HOLDS it", c -> {
            ConfettiMinutes x = Edges.calm("2;2", "0;7;7;7;7", "c0c1t00t17");
            c.due("STREET 0", x.bit(0, 1), 0);
            c.due("STREET 7", x.bit(1, 1), 7);
            x.days(1);
            c.due("the first of PEOPLE", x.bit(0, 0), 10);
            x.gives(1, 4, 1);
            c.due("the last of PEOPLE", x.bit(1, 0), 14);
        });
        EDGES.edge(8, "20 if it is not FLUNG", c -> {
            ConfettiMinutes x = Check.town("4", "0");
            c.due("at first", x.bit(0, 3), 20);
            x.carries(0);
            c.due("CARRIED", x.bit(0, 3), 20);
            x.flings(0, 0);
            x.sweeps(0);
            c.due("swept up", x.bit(0, 3), 20);
        });
        EDGES.edge(8, "NoSuchElementException: none such.", c -> {
            ConfettiMinutes x = Check.town("3;1", "0");
            int[][] none = {{-1, 0}, {2, 0}, {0, -1}, {0, 3}, {1, 1}, {1, 3}, {Integer.MIN_VALUE, 0}, {Integer.MAX_VALUE, 0},
                {0, Integer.MIN_VALUE}, {0, Integer.MAX_VALUE}, {0, 4}, {-1, 4}, {1, -1}};
            for (int[] a : none) {
                c.noSuch("bit(" + a[0] + ", " + a[1] + ")", () -> x.bit(a[0], a[1]));
            }
            c.due("bit(0, 2)", x.bit(0, 2), 20);
            c.due("bit(1, 0)", x.bit(1, 0), 20);
        });
    }

    private static void one() {
        EDGES.edge(9, "1: LAWS by which he has a RIGHT (bits), 2: how many BITS he HOLDS", c -> {
            ConfettiMinutes x = Edges.calm("1;1;1;1;1", "0;1", "c0c1c2c3c4t00t10t20t30t40");
            int[] rights = {0, 1, 3, 7, 15, 31};
            for (int held = 0; held <= 5; held++) {
                c.due("RIGHTS", x.one(0, 1), rights[held]);
                c.due("HOLDS", x.one(0, 2), held);
                x.days(1);
            }
            c.due("RIGHTS of one without", x.one(1, 1), 0);
            c.due("one without HOLDS", x.one(1, 2), 0);
        });
        EDGES.edge(9, "NoSuchElementException: likewise.", c -> {
            ConfettiMinutes x = Check.town("3", "0;0;0;0;6");
            int[][] none = {{-1, 0}, {5, 0}, {Integer.MIN_VALUE, 0}, {Integer.MAX_VALUE, 0}, {0, -1}, {0, 3}, {4, 3},
                {0, Integer.MIN_VALUE}, {0, Integer.MAX_VALUE}, {5, 3}};
            for (int[] a : none) {
                c.noSuch("one(" + a[0] + ", " + a[1] + ")", () -> x.one(a[0], a[1]));
            }
            c.due("one(4, 0)", x.one(4, 0), 6);
            c.due("one(4, 2)", x.one(4, 2), 0);
            ConfettiMinutes fewer = Check.town("3", "0");
            c.noSuch("a second of one", () -> fewer.one(1, 0));
        });
    }

    private static void streets(Check c, ConfettiMinutes x, int... due) {
        for (int one = 0; one < due.length; one++) {
            c.due("STREET of " + one, x.one(one, 0), due[one]);
        }
    }

    private static void sheetEntries() {
        EDGES.edge(10, "(of bytes, shorts the lowest bits, with their sign; put to 0 .. 7)", c -> {
            ConfettiMinutes x = Check.town("", "1;1;1");
            c.due("bytes 127, 128, 129", x.sheet(0, 3, 127, 1), 7);
            streets(c, x, 7, 0, 0);
            c.due("bytes 255, 256, 257", x.sheet(0, 3, 255, 1), 1);
            streets(c, x, 0, 0, 1);
            c.due("shorts 32767, 32768, 32769", x.sheet(1, 3, 32767, 1), 7);
            streets(c, x, 7, 0, 0);
            c.due("shorts 65535, 65536, 65537", x.sheet(1, 3, 65535, 1), 1);
            streets(c, x, 0, 0, 1);
            c.due("shorts 255, 256, 257", x.sheet(1, 3, 255, 1), 21);
            c.due("ints 65535, 65536, 65537", x.sheet(2, 3, 65535, 1), 21);
            c.due("ints -1, 0, 1", x.sheet(2, 3, -1, 1), 1);
            streets(c, x, 0, 0, 1);
            c.due("ints 6, 7, 8", x.sheet(2, 3, 6, 1), 20);
            streets(c, x, 6, 7, 7);
        });
        EDGES.edge(10, "bytes (kind 0), shorts (1), ints (2)", c -> {
            ConfettiMinutes x = Check.town("", "1");
            int[][] due = {{0, 128, 0}, {1, 128, 7}, {2, 128, 7}, {0, 32769, 1}, {1, 32769, 0}, {2, 32769, 7},
                {0, 65536, 0}, {1, 65536, 0}, {2, 65536, 7}, {0, -250, 6}, {1, -250, 0}, {1, -65530, 6}, {2, -65530, 0}};
            for (int[] a : due) {
                c.due("kind " + a[0] + " of " + a[1], x.sheet(a[0], 1, a[1], 0), a[2]);
                streets(c, x, a[2]);
            }
        });
        EDGES.edge(10, "ints (2) of n entries f, f + step, ..", c -> {
            ConfettiMinutes x = Check.town("", "1;1;1;1;1");
            c.due("down", x.sheet(2, 5, 4, -1), 10);
            streets(c, x, 4, 3, 2, 1, 0);
            c.due("five", x.sheet(2, 5, 3, 1), 25);
            streets(c, x, 3, 4, 5, 6, 7);
            c.due("behind the most int comes the least", x.sheet(2, 5, Integer.MAX_VALUE, 1), 7);
            streets(c, x, 7, 0, 0, 0, 0);
            c.due("a step goes round", x.sheet(2, 5, 2, 1 << 30), 11);
            streets(c, x, 2, 7, 0, 0, 2);
            c.due("ahead of the least int comes the most", x.sheet(2, 2, Integer.MIN_VALUE, -1), 7);
            streets(c, x, 0, 7, 0, 0, 0);
        });
        EDGES.edge(10, "those behind it have 0: the sum of all.", c -> {
            ConfettiMinutes x = Check.town("", "1;2;3");
            c.due("two of three", x.sheet(2, 2, 5, 1), 11);
            streets(c, x, 5, 6, 0);
            c.due("none of three", x.sheet(2, 0, 5, 1), 0);
            streets(c, x, 0, 0, 0);
            c.due("three of three", x.sheet(2, 3, 1, 1), 6);
            c.due("five, PEOPLE are three", x.sheet(2, 5, 1, 1), 6);
            streets(c, x, 1, 2, 3);
            ConfettiMinutes none = new ConfettiMinutes();
            c.due("no PEOPLE", none.sheet(2, 5, 1, 1), 0);
        });
    }

    private static void sheetRefused() {
        EDGES.edge(10, "-2: n below 0 (of kinds 0 .. 2; nothing changes);", c -> {
            ConfettiMinutes x = Check.town("", "1;2;3");
            for (int kind = 0; kind <= 2; kind++) {
                c.due("kind " + kind, x.sheet(kind, -1, 5, 1), -2);
                c.due("the least int, kind " + kind, x.sheet(kind, Integer.MIN_VALUE, 5, 1), -2);
                streets(c, x, 1, 2, 3);
                c.due("none is not below 0", Check.town("", "1").sheet(kind, 0, 5, 1), 0);
            }
        });
        EDGES.edge(10, "-3: missing (all 0).", c -> {
            ConfettiMinutes x = Check.town("", "1;2;3;4;5");
            c.due("missing", x.sheet(3, 5, 5, 1), -3);
            streets(c, x, 0, 0, 0, 0, 0);
            ConfettiMinutes y = Check.town("", "1;2");
            c.due("missing, n below 0", y.sheet(3, -1, 5, 1), -3);
            streets(c, y, 0, 0);
            c.due("missing, no PEOPLE", new ConfettiMinutes().sheet(3, 0, 0, 0), -3);
        });
        EDGES.edge(10, "NONE: another kind, n above 5 (these first).", c -> {
            ConfettiMinutes x = Check.town("", "1;2;3");
            c.due("kind 4", x.sheet(4, 3, 5, 1), -1);
            c.due("kind -1", x.sheet(-1, 3, 5, 1), -1);
            c.due("kind 4, n below 0", x.sheet(4, -1, 5, 1), -1);
            for (int kind = 0; kind <= 3; kind++) {
                c.due("six of kind " + kind, x.sheet(kind, 6, 5, 1), -1);
                c.due("the most int of kind " + kind, x.sheet(kind, Integer.MAX_VALUE, 5, 1), -1);
            }
            streets(c, x, 1, 2, 3);
        });
    }

    private static void sheetIsNoDeed() {
        EDGES.edge(10, "(It is not kept as a deed;", c -> {
            ConfettiMinutes x = Check.town("", "1;2;3");
            x.sheet(2, 3, 5, 1);
            x.sheet(3, 0, 0, 0);
            c.due("what can be undone", x.count(11), 0);
            c.due("undo()", x.undo(), -1);
            streets(c, x, 0, 0, 0);
        });
        EDGES.edge(10, "an undo() brings STREETS back as they were ahead of what is undone.)", c -> {
            ConfettiMinutes x = Check.town("", "1;2;3");
            x.wind(3);
            x.sheet(2, 3, 5, 1);
            c.due("undo()", x.undo(), 0);
            streets(c, x, 1, 2, 3);
            x.sheet(2, 3, 5, 1);
            x.wind(3);
            x.undo();
            streets(c, x, 5, 6, 7);
        });
    }
}
