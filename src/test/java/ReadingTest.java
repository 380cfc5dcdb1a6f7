/** Promises 1 to 10: a new object, THE TEXT, LAWS, PEOPLE, THE RULE, what they are. */
public final class ReadingTest {
    private static final Check CHECK = new Check("ReadingTest");

    public static void main(String[] args) {
        newObject();
        signs();
        ends();
        laws();
        people();
        ruleFaults();
        ruleValues();
        ruleNames();
        lawsTold();
        bitsTold();
        onesTold();
        sheets();
        CHECK.end();
    }

    private static void newObject() {
        ConfettiMinutes x = new ConfettiMinutes();
        CHECK.due("NONE", ConfettiMinutes.NONE, -1);
        for (int what = 0; what <= 13; what++) {
            CHECK.due("new: count(" + what + ")", x.count(what), what == 2 ? 11 : 0);
        }
        CHECK.row("new", x);
        CHECK.noSuch("new: law(0, 0)", () -> x.law(0, 0));
        CHECK.noSuch("new: one(0, 0)", () -> x.one(0, 0));
        CHECK.due("new: again(0)", x.again(0), false);
        CHECK.due("new: undo()", x.undo(), -1);
    }

    private static void signs() {
        ConfettiMinutes x = new ConfettiMinutes();
        for (int n = 4; n <= 80; n += 4) {
            CHECK.due("sign to " + n, x.sign(0x313B323B), n);
        }
        CHECK.due("sign behind 80", x.sign(0x313B323B), -1);
        CHECK.due("80 signs stay", x.count(13), 80);
        x.end(77);
        CHECK.due("sign behind 77", x.sign(0), -1);
        CHECK.due("77 signs stay", x.count(13), 77);
        x.end(76);
        CHECK.due("sign behind 76", x.sign(0), 80);
        x.end(3);
        CHECK.due("the highest byte is first", x.laws(), 2);
        CHECK.due("first law", x.law(0, 0), 1);
        CHECK.due("second law", x.law(1, 0), 2);
        x.sign(0x33FFFFFF);
        CHECK.due("signs above 127", x.laws(), -2);
        x.sign(-1);
        CHECK.due("sign 255", x.laws(), -1);
    }

    private static void ends() {
        ConfettiMinutes x = new ConfettiMinutes();
        CHECK.due("end(0) of none", x.end(0), true);
        CHECK.due("end(1) of none", x.end(1), false);
        x.sign(0x31323334);
        CHECK.due("end(-1)", x.end(-1), false);
        CHECK.due("end(least int)", x.end(Integer.MIN_VALUE), false);
        CHECK.due("end(5)", x.end(5), false);
        CHECK.due("signs stay", x.count(13), 4);
        CHECK.due("end(4)", x.end(4), true);
        CHECK.due("end(1)", x.end(1), true);
        CHECK.due("one sign", x.count(13), 1);
        CHECK.due("end(2)", x.end(2), false);
        CHECK.due("laws()", x.laws(), 1);
        CHECK.due("a text that was read is empty", x.count(13), 0);
    }

    private static void laws() {
        String[] texts = {"", "1", "4;1;2;3;4", "0", "5", "1;", "1;;", "12", ";", "1;2;3;4;1;", "1;2;3;4;1x",
            "1;2;3;4;x;", "1;2;3;4;1;2;3;4;1", "1;2;3;4;", "1;2 ", "x", "1;2;3;4;12"};
        int[] due = {0, 1, 5, -1, -1, -3, -3, -2, -1, -10, -10, -9, -10, -9, -4, -1, -10};
        for (int t = 0; t < texts.length; t++) {
            ConfettiMinutes x = new ConfettiMinutes();
            CHECK.due("laws() of " + texts[t], Check.text(x, texts[t]).laws(), due[t]);
            CHECK.due("LAWS behind " + texts[t], x.count(0), Math.max(0, due[t]));
            CHECK.due("THE TEXT behind " + texts[t], x.count(13), 0);
        }
        ConfettiMinutes x = Check.town("4;2;1", "");
        String[] more = {"1;2;3", "1;2;", "1;2;x;1;1;1", "1;x", "", "1;3", "1", "", "x", ";"};
        int[] dueThen = {-5, -5, -5, -3, 0, 2, -1, 0, -1, -1};
        for (int t = 0; t < more.length; t++) {
            CHECK.due("laws() with 3: " + more[t], Check.text(x, more[t]).laws(), dueThen[t]);
            CHECK.due("LAWS behind " + more[t], x.count(0), t < 5 ? 3 : 5);
        }
        int[] bits = {4, 2, 1, 1, 3};
        for (int law = 0; law < 5; law++) {
            CHECK.due("BITS of " + law, x.law(law, 0), bits[law]);
            CHECK.due("CARRIED " + law, x.law(law, 1), 0);
            CHECK.due("FLUNG " + law, x.law(law, 2), 0);
        }
    }

    private static void people() {
        String[] texts = {"", "0", "7;6;5;4;3", "8", "9", "3;", "33", ";", "1;2;3;4;0;", "1;2;3;8", "0;1;2;3;4;5"};
        int[] due = {0, 1, 5, -1, -1, -3, -2, -1, -10, -7, -10};
        for (int t = 0; t < texts.length; t++) {
            ConfettiMinutes x = new ConfettiMinutes();
            CHECK.due("people() of " + texts[t], Check.text(x, texts[t]).people(), due[t]);
            CHECK.due("PEOPLE behind " + texts[t], x.count(1), Math.max(0, due[t]));
            CHECK.due("THE TEXT behind " + texts[t], x.count(13), 0);
        }
        ConfettiMinutes x = Check.town("", "7;6;5;4");
        CHECK.due("people() with 4", Check.text(x, "1;1").people(), -3);
        CHECK.due("PEOPLE", x.count(1), 4);
        CHECK.due("people() with 4", Check.text(x, "0").people(), 1);
        CHECK.due("people() with 5", Check.text(x, "0").people(), -1);
        int[] streets = {7, 6, 5, 4, 0};
        for (int one = 0; one < 5; one++) {
            CHECK.due("STREET of " + one, x.one(one, 0), streets[one]);
        }
    }

    private static void ruleFaults() {
        String forty = "w+w+w+w+w+w+w+w+w+w+w+w+w+w+w+w+w+w+w+10";
        String[] texts = {"", "w", "-w", "--w", "w+1", "((((w))))", "1<2", "(1<2)=(w>i)", "999", "007*s/k-l+m", "2*-w",
            "((((w))))+((((1))))", "(1<2)<(3<4)", "(1<2)<3", forty, "n", "2--2",
            "(((((w", "1<2<3", "(1<2<3)", "1=2+3>1", "w)", "(w", "1234", "w1", "1w", "()", "+1", "*", "w w", "w~",
            "(1<2)<3<4", forty + "0", forty + "+w", "1<2<" + forty, forty.substring(0, 39) + "+", "w+", "-",
            "(w)1", "(w)(", "ww", "1(", "W", "(1<2", "1<", "((((w)))))", "w/", "1<-(2)<3", "12+1234",
            "(1<2)+(1<2)<(1<2<1)", "1,", forty.substring(0, 38) + "((", "----(-(", "\u00ff", "(1)2"};
        int[] due = {0, 0, 0, 0, 0, 0, 0, 0, 0, 0, 0,
            0, 0, 0, 0, 0, 0,
            -5, -4, -5, -6, -2, -3, -4, -2, -2, -2, -1, -1, -2, -2,
            -8, -41, -41, -4, -41, -3, -2,
            -4, -4, -2, -2, -1, -5, -3, -10, -3, -7, -7,
            -17, -2, -41, -8, -1, -4};
        for (int t = 0; t < texts.length; t++) {
            ConfettiMinutes x = new ConfettiMinutes();
            CHECK.due("rule() of " + texts[t], Check.text(x, texts[t]).rule(), due[t]);
            CHECK.due("THE TEXT behind " + texts[t], x.count(13), 0);
            int other = due[t] == 0 ? 0 : -10000 + due[t] + 1;
            CHECK.due("other() of " + texts[t], Check.text(x, texts[t]).other(), other);
        }
    }

    /** What a rule tells, as far as a BIT that lies in STREET 0 shows it. */
    private static void ruleValues() {
        String[] rules = {"", "w", "2*w+1", "-w", "--w", "1+2*3", "(1+2)*2", "7-2-1", "7-(2-1)", "9/2/2", "9/(2/2)",
            "8/3*2", "5/0", "7+5/0", "0-7/2+7", "-7/2+7", "2<3", "3<2", "3>2", "2>3", "2=2", "2=3", "2<2", "2>2",
            "1+1<3", "(3>2)*5", "-(1-4)", "2--3", "2*-3+9", "0-999*999*999*999", "999", "0-999", "6-(2<3)", "012-7",
            "1<0+2*3", "---3+7", "-(-(-(-5)))", "(1=1)+(2=2)+(3=3)", "0=1-1", "7/-2+7", "-3*-2"};
        int[] due = {1, 1, 3, 0, 1, 7, 6, 4, 6, 2, 7,
            4, 0, 7, 4, 4, 1, 0, 1, 0, 1, 0, 0, 0,
            1, 5, 3, 5, 3, 7, 7, 0, 5, 5,
            1, 4, 5, 3, 1, 4, 6};
        for (int t = 0; t < rules.length; t++) {
            ConfettiMinutes x = Check.town("1", "");
            CHECK.due("rule() of " + rules[t], Check.text(x, rules[t]).rule(), 0);
            CHECK.wed(x, "c0t00");
            CHECK.due("a BIT by " + rules[t], x.later(0, 0, 1), due[t]);
        }
        ConfettiMinutes x = Check.town("1", "");
        CHECK.wed(x, "c0t07");
        Check.text(x, "0-9").rule();
        CHECK.due("DRIFT is -7 at least", x.later(0, 0, 1), 0);
        Check.text(x, "0-2").rule();
        CHECK.due("down", x.later(0, 0, 1), 5);
        Check.text(x, "0-2+").rule();
        CHECK.due("a refused rule changes nothing", x.later(0, 0, 1), 5);
        Check.text(x, "").rule();
        CHECK.due("no rule: by WIND", x.later(0, 0, 1), 7);
        x.wind(-3);
        CHECK.due("no rule: by WIND", x.later(0, 0, 1), 4);
    }

    private static void ruleNames() {
        ConfettiMinutes x = Check.town("1;2;4", "");
        CHECK.wed(x, "c1t10c2t20");
        Check.text(x, "i").rule();
        for (int bit = 0; bit < 4; bit++) {
            CHECK.due("i of " + bit, x.later(2, bit, 1), bit);
        }
        Check.text(x, "l").rule();
        CHECK.due("l of 1", x.later(1, 0, 1), 1);
        CHECK.due("l of 2", x.later(2, 0, 1), 2);
        Check.text(x, "m").rule();
        CHECK.due("m of 1", x.later(1, 0, 1), 2);
        CHECK.due("m of 2", x.later(2, 0, 1), 4);
        Check.text(x, "k").rule();
        CHECK.due("k of six", x.later(1, 1, 1), 5);
        Check.text(x, "i+l").rule();
        x.days(1);
        Check.text(x, "s").rule();
        CHECK.due("s of 1", x.later(1, 0, 1), 2);
        CHECK.due("s of 3", x.later(2, 1, 1), 6);
        Check.text(x, "k+2").rule();
        CHECK.due("k of two in STREET 2", x.later(2, 0, 1), 5);
        CHECK.due("k of one alone in STREET 1", x.later(1, 0, 1), 3);
        ConfettiMinutes y = Check.town("1", "");
        Check.text(y, "n").rule();
        CHECK.wed(y, "n6c0t00");
        CHECK.due("n on DAY 6", y.later(0, 0, 1), 6);
        y.days(1);
        CHECK.due("n on DAY 7", y.later(0, 0, 1), 6);
        y.days(1);
        CHECK.due("n on DAY 8", y.later(0, 0, 1), 7);
    }

    private static void lawsTold() {
        ConfettiMinutes x = Check.town("3;2;4", "2;5");
        CHECK.wed(x, "c0c2t02w+0n1");
        int[][] due = {{3, 1, 1, 6, 1, 5}, {2, 0, 0, 0, 0, 5}, {4, 1, 0, 0, 0, 5}};
        for (int law = 0; law < 3; law++) {
            for (int what = 0; what < 6; what++) {
                CHECK.due("law(" + law + ", " + what + ")", x.law(law, what), due[law][what]);
            }
        }
        CHECK.wed(x, "p12n1");
        CHECK.due("all are HELD", x.law(0, 3), 0);
        CHECK.due("all are HELD", x.law(0, 4), 3);
        CHECK.due("two of three give a RIGHT", x.law(0, 5), 0);
        CHECK.wed(x, "g010");
        CHECK.due("three of three give a RIGHT", x.law(0, 5), 1);
        ConfettiMinutes y = Check.town("2;4", "0;0");
        CHECK.wed(y, "w+0c0t00n1");
        CHECK.due("half of two gives none", y.law(0, 5), 5);
        CHECK.wed(y, "c1t10n1");
        CHECK.due("half of four gives none", y.law(1, 5), 5);
        CHECK.wed(y, "g101n1");
        CHECK.due("three of four give a RIGHT", y.law(1, 5), 0);
        int[][] none = {{-1, 0}, {3, 0}, {0, -1}, {0, 6}, {Integer.MIN_VALUE, 0}, {0, Integer.MAX_VALUE}};
        for (int[] args : none) {
            CHECK.noSuch("law(" + args[0] + ", " + args[1] + ")", () -> x.law(args[0], args[1]));
        }
    }

    private static void bitsTold() {
        ConfettiMinutes x = Check.town("3;1", "2");
        CHECK.due("not FLUNG", x.bit(0, 2), 20);
        CHECK.wed(x, "c0t02w+0n1");
        CHECK.due("HELD", x.bit(0, 0), 10);
        CHECK.due("lies", x.bit(0, 1), 2);
        CHECK.due("not FLUNG", x.bit(1, 0), 20);
        int[][] none = {{-1, 0}, {2, 0}, {0, -1}, {0, 3}, {1, 1}, {Integer.MAX_VALUE, 0}, {0, Integer.MIN_VALUE}};
        for (int[] args : none) {
            CHECK.noSuch("bit(" + args[0] + ", " + args[1] + ")", () -> x.bit(args[0], args[1]));
        }
    }

    private static void onesTold() {
        ConfettiMinutes x = Check.town("3;1;1", "2;5");
        CHECK.wed(x, "w+0c0t02c2t22n3");
        CHECK.due("STREET", x.one(0, 0), 2);
        CHECK.due("RIGHTS", x.one(0, 1), 1);
        CHECK.due("HOLDS", x.one(0, 2), 3);
        x.days(1);
        CHECK.due("RIGHTS by two LAWS", x.one(0, 1), 5);
        CHECK.due("STREET of the other one", x.one(1, 0), 5);
        CHECK.due("RIGHTS of the other one", x.one(1, 1), 0);
        CHECK.due("the other one HOLDS", x.one(1, 2), 0);
        int[][] none = {{-1, 0}, {2, 0}, {0, -1}, {0, 3}, {5, 1}, {Integer.MIN_VALUE, 2}};
        for (int[] args : none) {
            CHECK.noSuch("one(" + args[0] + ", " + args[1] + ")", () -> x.one(args[0], args[1]));
        }
    }

    private static void sheets() {
        ConfettiMinutes x = Check.town("", "1;2;3");
        CHECK.due("ints", x.sheet(2, 3, 2, 2), 12);
        streets(x, 2, 4, 6);
        CHECK.due("a shorter one", x.sheet(2, 1, 5, 0), 5);
        streets(x, 5, 0, 0);
        CHECK.due("put to 0 .. 7", x.sheet(2, 3, -1, 9), 14);
        streets(x, 0, 7, 7);
        CHECK.due("bytes have a sign", x.sheet(0, 3, 127, 1), 7);
        streets(x, 7, 0, 0);
        CHECK.due("the lowest bits of bytes", x.sheet(0, 3, 256, 257), 3);
        streets(x, 0, 1, 2);
        CHECK.due("shorts have a sign", x.sheet(1, 3, 32767, 1), 7);
        streets(x, 7, 0, 0);
        CHECK.due("shorts hold 256", x.sheet(1, 3, 256, 0), 21);
        CHECK.due("the lowest bits of shorts", x.sheet(1, 3, 65536, 65538), 6);
        streets(x, 0, 2, 4);
        CHECK.due("ints hold 65536", x.sheet(2, 3, 65536, 0), 21);
        CHECK.due("ints go round", x.sheet(2, 3, Integer.MAX_VALUE, 1), 7);
        streets(x, 7, 0, 0);
        CHECK.due("more entries than PEOPLE", x.sheet(2, 5, 1, 1), 6);
        streets(x, 1, 2, 3);
        CHECK.due("n below 0", x.sheet(0, -1, 5, 5), -2);
        CHECK.due("n above 5", x.sheet(2, 6, 5, 5), -1);
        CHECK.due("another kind", x.sheet(4, -1, 5, 5), -1);
        CHECK.due("another kind", x.sheet(-1, 2, 5, 5), -1);
        CHECK.due("n above 5, missing", x.sheet(3, 6, 5, 5), -1);
        streets(x, 1, 2, 3);
        CHECK.due("missing", x.sheet(3, -1, 5, 5), -3);
        streets(x, 0, 0, 0);
        x.sheet(2, 3, 4, 1);
        CHECK.due("missing", x.sheet(3, 3, 5, 5), -3);
        streets(x, 0, 0, 0);
        CHECK.due("none", x.sheet(1, 0, 5, 5), 0);
        CHECK.due("it is no deed", x.count(11), 0);
        x.sheet(2, 3, 1, 1);
        x.walks(0, 7);
        x.sheet(2, 3, 6, 0);
        x.undo();
        streets(x, 1, 2, 3);
    }

    private static void streets(ConfettiMinutes x, int... due) {
        for (int one = 0; one < due.length; one++) {
            CHECK.due("STREET of " + one, x.one(one, 0), due[one]);
        }
    }
}
