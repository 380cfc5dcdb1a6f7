/** Promises 11 to 20, 52 and 53: what is done, undone, kept. */
public final class DeedsTest {
    private static final Check CHECK = new Check("DeedsTest");

    public static void main(String[] args) {
        carries();
        flings();
        sweeps();
        days();
        daysGoBy();
        walks();
        gives();
        falls();
        winds();
        weddingFaults();
        weddings();
        weddingActs();
        undoes();
        undoesEachDeed();
        undoForgets();
        keeps();
        CHECK.end();
    }

    private static void carries() {
        ConfettiMinutes x = Check.town("3;1;2", "0");
        CHECK.due("carries(2)", x.carries(2), 1);
        CHECK.due("carries(0)", x.carries(0), 2);
        CHECK.due("carries(0) again", x.carries(0), -2);
        CHECK.due("carries(3)", x.carries(3), -1);
        CHECK.due("carries(-1)", x.carries(-1), -1);
        CHECK.due("carries(33)", x.carries(33), -1);
        CHECK.due("CARRIED", x.count(4), 5);
        CHECK.due("done", x.count(11), 2);
        x.flings(0, 3);
        CHECK.due("carries() of one FLUNG", x.carries(0), -2);
    }

    private static void flings() {
        ConfettiMinutes x = Check.town("3;1", "0");
        CHECK.due("not CARRIED", x.flings(0, 7), -2);
        CHECK.due("not CARRIED, no STREET", x.flings(0, 8), -1);
        CHECK.due("none such", x.flings(2, 0), -1);
        CHECK.due("none such", x.flings(-1, 0), -1);
        x.carries(0);
        CHECK.due("no STREET", x.flings(0, -1), -1);
        CHECK.due("flings(0, 7)", x.flings(0, 7), 3);
        for (int bit = 0; bit < 3; bit++) {
            CHECK.due("bit " + bit, x.bit(0, bit), 7);
        }
        CHECK.due("already", x.flings(0, 7), -3);
        CHECK.due("already, no STREET", x.flings(0, 8), -1);
        CHECK.due("FLUNG", x.count(5), 1);
        CHECK.due("CARRIED still", x.count(4), 1);
        CHECK.due("lie", x.count(6), 3);
        x.carries(1);
        CHECK.due("flings(1, 0)", x.flings(1, 0), 1);
        CHECK.due("FLUNG", x.count(5), 3);
        CHECK.due("done", x.count(11), 4);
    }

    private static void sweeps() {
        ConfettiMinutes x = Check.town("3;2", "0;0");
        CHECK.due("not FLUNG", x.sweeps(0), -2);
        CHECK.due("none such", x.sweeps(2), -1);
        CHECK.due("none such", x.sweeps(-1), -1);
        x.carries(0);
        CHECK.due("CARRIED, not FLUNG", x.sweeps(0), -2);
        CHECK.wed(x, "w+0t00n1c1t15");
        CHECK.due("sweeps(0)", x.sweeps(0), 2);
        for (int bit = 0; bit < 3; bit++) {
            CHECK.due("bit " + bit, x.bit(0, bit), 20);
        }
        CHECK.due("neither CARRIED", x.count(4), 2);
        CHECK.due("nor FLUNG", x.count(5), 2);
        CHECK.due("lie", x.count(6), 2);
        CHECK.due("HELD", x.count(7), 0);
        CHECK.due("already", x.sweeps(0), -2);
        CHECK.due("none was HELD", x.sweeps(1), 0);
        CHECK.wed(x, "c0t04");
        CHECK.due("FLUNG again", x.law(0, 3), 7);
    }

    private static void days() {
        ConfettiMinutes x = Check.town("3;1", "2;4");
        CHECK.wed(x, "c0t00");
        CHECK.due("days(61)", x.days(61), -1);
        CHECK.due("days(-1)", x.days(-1), -1);
        CHECK.row("a wedding", x, 0, 0);
        CHECK.due("days(0)", x.days(0), 0);
        CHECK.row("days(0)", x, 3, 0);
        CHECK.due("days(2)", x.days(2), 1);
        CHECK.row("days(2)", x, 2, 0);
        CHECK.due("DAY", x.count(3), 2);
        CHECK.due("days(2)", x.days(2), 1);
        CHECK.row("days(2)", x, 1, 0);
        CHECK.due("HELD", x.bit(0, 1), 11);
        CHECK.due("lies", x.bit(0, 2), 4);
        CHECK.due("days(60)", x.days(60), 0);
        CHECK.due("DAY", x.count(3), 64);
        CHECK.due("at the end of the row of STREETS", x.bit(0, 2), 7);
        x.walks(0, 7);
        CHECK.due("days(1)", x.days(1), 1);
        CHECK.row("days(1)", x, 0, 1);
    }

    private static void daysGoBy() {
        ConfettiMinutes x = Check.town("2;2", "3;3;3");
        Check.text(x, "k-1").rule();
        CHECK.wed(x, "c0c1t01t11");
        x.days(1);
        CHECK.due("k counts as all is ahead of it", x.count(7), 3);
        CHECK.due("the first one takes the first BIT", x.bit(0, 0), 10);
        CHECK.due("the second one the second", x.bit(0, 1), 11);
        CHECK.due("the third one that of the next LAW", x.bit(1, 0), 12);
        CHECK.due("one lies", x.bit(1, 1), 3);
        x.days(1);
        CHECK.due("alone it goes down", x.bit(1, 1), 2);
        CHECK.wed(x, "n2");
        CHECK.due("down to 0", x.bit(1, 1), 0);
        x.days(1);
        CHECK.due("at 0 it stays", x.bit(1, 1), 0);
        ConfettiMinutes y = Check.town("1", "0");
        CHECK.wed(y, "c0t00n1");
        CHECK.due("blown away ahead of his hand", y.bit(0, 0), 1);
    }

    private static void walks() {
        ConfettiMinutes x = Check.town("1", "2;5");
        CHECK.due("up", x.walks(0, 7), 5);
        CHECK.due("down", x.walks(1, 0), 5);
        CHECK.due("there", x.walks(1, 0), -2);
        CHECK.due("no STREET", x.walks(1, 8), -1);
        CHECK.due("no STREET", x.walks(1, -1), -1);
        CHECK.due("none such", x.walks(2, 0), -1);
        CHECK.due("none such", x.walks(-1, 0), -1);
        CHECK.due("STREET", x.one(0, 0), 7);
        CHECK.due("STREET", x.one(1, 0), 0);
        CHECK.due("done", x.count(11), 2);
    }

    private static void gives() {
        ConfettiMinutes x = Check.town("3;2", "0;0;4");
        CHECK.wed(x, "w+0c0c1t00t10n2");
        CHECK.due("none of it", x.gives(2, 0, 0), -2);
        CHECK.due("none of that", x.gives(0, 1, 1), -2);
        CHECK.due("like ones", x.gives(0, 0, 0), -1);
        CHECK.due("no one", x.gives(3, 0, 0), -1);
        CHECK.due("no other one", x.gives(0, 3, 0), -1);
        CHECK.due("no other one", x.gives(0, -1, 0), -1);
        CHECK.due("no LAW", x.gives(0, 1, 2), -1);
        CHECK.due("no LAW", x.gives(0, 1, -1), -1);
        CHECK.due("like ones without a BIT", x.gives(2, 2, 0), -1);
        CHECK.due("one gives", x.gives(0, 2, 0), 2);
        CHECK.due("BIT 0", x.bit(0, 0), 12);
        CHECK.due("BIT 1", x.bit(0, 1), 11);
        CHECK.due("BIT 2", x.bit(0, 2), 12);
        CHECK.due("another LAW's BIT stays", x.bit(1, 0), 11);
        CHECK.due("nothing is left", x.gives(0, 2, 0), -2);
        CHECK.due("done", x.count(11), 2);
    }

    private static void falls() {
        ConfettiMinutes x = Check.town("3;2", "0;0;4");
        CHECK.wed(x, "w+0c0c1t00t10n2p03");
        CHECK.due("he has none", x.falls(2), -2);
        CHECK.due("none such", x.falls(3), -1);
        CHECK.due("none such", x.falls(-1), -1);
        CHECK.due("one lets fall", x.falls(0), 2);
        CHECK.due("BIT 0", x.bit(0, 0), 3);
        CHECK.due("BIT 2", x.bit(0, 2), 3);
        CHECK.due("BIT 1 is another one's", x.bit(0, 1), 11);
        CHECK.due("BITS of two LAWS", x.falls(1), 2);
        CHECK.due("BIT 1", x.bit(0, 1), 0);
        CHECK.due("BIT 0 of LAW 1", x.bit(1, 0), 0);
        CHECK.due("HELD", x.count(7), 0);
        CHECK.due("lie", x.count(6), 5);
    }

    private static void winds() {
        ConfettiMinutes x = new ConfettiMinutes();
        CHECK.due("wind(1)", x.wind(1), -2);
        CHECK.due("wind(4)", x.wind(4), -1);
        CHECK.due("wind(-4)", x.wind(-4), -1);
        CHECK.due("wind(-3)", x.wind(-3), 11);
        CHECK.due("wind(3)", x.wind(3), 7);
        CHECK.due("WIND", x.count(2), 13);
        CHECK.due("wind(0)", x.wind(0), 13);
        CHECK.due("wind(0)", x.wind(0), -2);
        CHECK.due("done", x.count(11), 3);
    }

    private static void weddingFaults() {
        String sixty = "n0n0n0n0n0n0n0n0n0n0n0n0n0n0n0n0n0n0n0n0n0n0n0n0n0n0n0n0n0n0";
        String[] texts = {"x", "n", "nx", "n1x", "n12", "t", "t1", "t18", "t17t", "p18", "pxx", "g12", "g12x", "g123g",
            "w1", "w+", "w+4", "w-3w", "w--", "c:", "s/", "l", sixty + "n", sixty + "x", sixty.substring(0, 58) + "t0",
            sixty.substring(0, 58) + "t077", "n0x" + sixty, sixty + "n0n0", " ", "N1", "n1;n1"};
        int[] due = {-1, -2, -2, -3, -3, -2, -3, -3, -5, -3, -2, -4, -4, -6,
            -2, -3, -3, -5, -3, -2, -2, -2, -61, -61, -61,
            -61, -3, -61, -1, -1, -3};
        for (int t = 0; t < texts.length; t++) {
            ConfettiMinutes x = Check.town("1", "1;2");
            CHECK.due("wedding() of " + texts[t], Check.text(x, texts[t]).wedding(), due[t]);
            CHECK.due("THE TEXT behind " + texts[t], x.count(13), 0);
            CHECK.due("DAY behind " + texts[t], x.count(3), 0);
            CHECK.due("done by " + texts[t], x.count(11), 0);
            CHECK.row(texts[t], x);
        }
        ConfettiMinutes x = new ConfettiMinutes();
        CHECK.due("sixty signs", Check.text(x, sixty).wedding(), 30);
    }

    private static void weddings() {
        ConfettiMinutes x = Check.town("3;2", "0;0");
        CHECK.due("an empty one", Check.text(x, "").wedding(), 0);
        CHECK.row("an empty one", x, 0, 0);
        CHECK.due("nothing to undo", x.count(11), 0);
        CHECK.due("refused at once", Check.text(x, "t00c0").wedding(), 0);
        CHECK.row("refused at once", x, 1, 0);
        CHECK.due("nothing to undo", x.count(11), 0);
        CHECK.due("nothing is done behind it", x.count(4), 0);
        CHECK.due("till one is refused", Check.text(x, "w-0c0t00n1t00n9").wedding(), 4);
        CHECK.row("till one is refused", x, 1, 2);
        CHECK.due("as one", x.count(11), 1);
        CHECK.due("DAY", x.count(3), 1);
        CHECK.due("to the end", Check.text(x, "n1g010").wedding(), 2);
        CHECK.row("to the end", x, 0, 3);
        CHECK.due("as one", x.count(11), 2);
        CHECK.due("none such is refused, not wrong", Check.text(x, "c9").wedding(), 0);
        CHECK.row("c9", x, 1, 3);
        CHECK.due("undo()", x.undo(), 1);
        CHECK.due("undone to", x.count(7), 2);
        CHECK.due("undo()", x.undo(), 0);
        CHECK.due("undone to", x.count(4), 0);
        CHECK.due("undone to", x.count(2), 11);
    }

    private static void weddingActs() {
        ConfettiMinutes x = Check.town("3;2", "0;0");
        CHECK.wed(x, "c1");
        CHECK.due("c1", x.count(4), 2);
        CHECK.wed(x, "t15");
        CHECK.due("t15", x.bit(1, 1), 5);
        CHECK.wed(x, "w+2");
        CHECK.due("w+2", x.count(2), 12);
        CHECK.wed(x, "w-3");
        CHECK.due("w-3", x.count(2), 7);
        CHECK.wed(x, "n2");
        CHECK.due("n2", x.count(3), 2);
        CHECK.due("n2", x.count(7), 2);
        CHECK.wed(x, "g011");
        CHECK.due("g011", x.one(1, 2), 2);
        CHECK.wed(x, "p17");
        CHECK.due("p17", x.one(1, 0), 7);
        CHECK.wed(x, "l1");
        CHECK.due("l1", x.bit(1, 0), 7);
        CHECK.wed(x, "s1");
        CHECK.due("s1", x.bit(1, 0), 20);
        CHECK.due("done", x.count(11), 9);
    }

    private static void undoes() {
        ConfettiMinutes x = Check.town("1", "0");
        CHECK.due("none", x.undo(), -1);
        for (int n = 1; n <= 17; n++) {
            x.walks(0, n % 8);
            CHECK.due("what can be undone", x.count(11), Math.min(15, n));
        }
        for (int n = 16; n >= 2; n--) {
            CHECK.due("undo()", x.undo(), n - 2);
            CHECK.due("STREET", x.one(0, 0), n % 8);
        }
        CHECK.due("no more than 15", x.undo(), -1);
        CHECK.due("STREET", x.one(0, 0), 2);
        x.walks(0, 5);
        CHECK.due("undo()", x.undo(), 0);
        CHECK.due("STREET", x.one(0, 0), 2);
        x.days(0);
        CHECK.due("days(0), too", x.count(11), 1);
        x.days(61);
        x.walks(0, 2);
        x.carries(7);
        CHECK.due("refused ones do not count", x.count(11), 1);
    }

    private static void undoesEachDeed() {
        String[] acts = {"c1", "t17", "n3", "p02", "g010", "l0", "w-2", "s0"};
        for (String act : acts) {
            ConfettiMinutes x = Check.town("3;2", "0;0;3");
            CHECK.wed(x, "w+0c0t00n1w+1");
            if (act.startsWith("t")) {
                x.carries(1);
            }
            String ahead = all(x);
            int deeds = x.count(11);
            doAct(x, act);
            CHECK.due(act + " changes something", all(x).equals(ahead), false);
            CHECK.due("undo() of " + act, x.undo(), deeds);
            CHECK.due("all is as ahead of " + act, all(x).equals(ahead), true);
        }
        ConfettiMinutes x = Check.town("1", "0");
        Check.text(x, "2").rule();
        CHECK.wed(x, "c0t00");
        x.days(1);
        Check.text(x, "3").rule();
        x.undo();
        CHECK.due("THE RULE is not undone", x.later(0, 0, 1), 3);
        x.seen(0, 0, 1);
        x.heard(0, 1);
        x.went(0, 0, 0);
        x.undo();
        CHECK.due("what was seen stays", x.count(8), 1);
        CHECK.due("what was heard stays", x.count(9), 1);
        CHECK.due("what was told stays", x.count(10), 1);
    }

    private static void doAct(ConfettiMinutes x, String act) {
        int[] d = new int[4];
        for (int p = 1; p < act.length(); p++) {
            d[p] = act.charAt(p) - '0';
        }
        switch (act.charAt(0)) {
            case 'c' -> CHECK.due(act, x.carries(d[1]), 2);
            case 't' -> CHECK.due(act, x.flings(d[1], d[2]), 2);
            case 'n' -> CHECK.due(act, x.days(d[1]), 1);
            case 'p' -> CHECK.due(act, x.walks(d[1], d[2]), 2);
            case 'g' -> CHECK.due(act, x.gives(d[1], d[2], d[3]), 1);
            case 'l' -> CHECK.due(act, x.falls(d[1]), 1);
            case 's' -> CHECK.due(act, x.sweeps(d[1]), 2);
            default -> CHECK.due(act, x.wind(-d[2]), 11);
        }
    }

    /** All that undo() brings back. */
    private static String all(ConfettiMinutes x) {
        StringBuilder s = new StringBuilder();
        for (int what = 2; what <= 7; what++) {
            s.append(x.count(what)).append(' ');
        }
        for (int law = 0; law < x.count(0); law++) {
            for (int bit = 0; bit < x.law(law, 0); bit++) {
                s.append(x.bit(law, bit)).append(' ');
            }
        }
        for (int one = 0; one < x.count(1); one++) {
            s.append(x.one(one, 0)).append(' ');
        }
        return s.toString();
    }

    private static void undoForgets() {
        ConfettiMinutes x = Check.town("1", "0");
        x.walks(0, 3);
        Check.text(x, "").laws();
        Check.text(x, "").people();
        CHECK.due("empty texts do not forget", x.count(11), 1);
        Check.text(x, "x").laws();
        Check.text(x, "1;").people();
        CHECK.due("refused ones do not forget", x.count(11), 1);
        Check.text(x, "2").laws();
        CHECK.due("laws() forgets", x.count(11), 0);
        CHECK.due("laws() forgets", x.undo(), -1);
        x.walks(0, 4);
        Check.text(x, "2").people();
        CHECK.due("people() forgets", x.undo(), -1);
        CHECK.due("STREET", x.one(0, 0), 4);
        x.keep(1);
        x.walks(0, 5);
        x.again(0);
        CHECK.due("a refused again() does not forget", x.count(11), 1);
        x.again(1);
        CHECK.due("again() forgets", x.undo(), -1);
    }

    private static void keeps() {
        ConfettiMinutes x = Check.town("3;2", "0;0;3");
        CHECK.due("keep(-1)", x.keep(-1), false);
        CHECK.due("keep(3)", x.keep(3), false);
        CHECK.due("again(-1)", x.again(-1), false);
        CHECK.due("again(3)", x.again(3), false);
        CHECK.wed(x, "w+0c0t00n1w+1");
        String first = all(x);
        CHECK.due("keep(0)", x.keep(0), true);
        CHECK.wed(x, "c1t13n2p02w-3");
        String second = all(x);
        CHECK.due("keep(2)", x.keep(2), true);
        CHECK.due("again(1)", x.again(1), false);
        CHECK.due("nothing changed", all(x).equals(second), true);
        CHECK.due("again(0)", x.again(0), true);
        CHECK.due("as it was", all(x).equals(first), true);
        CHECK.wed(x, "n5");
        CHECK.due("again(0)", x.again(0), true);
        CHECK.due("as it was", all(x).equals(first), true);
        CHECK.due("again(2)", x.again(2), true);
        CHECK.due("as it was", all(x).equals(second), true);
        CHECK.due("keep(0) once more", x.keep(0), true);
        x.days(9);
        CHECK.due("again(0)", x.again(0), true);
        CHECK.due("the latest is kept", all(x).equals(second), true);
        Check.text(x, "").laws();
        Check.text(x, "9").people();
        CHECK.due("none came", x.again(2), true);
        Check.text(x, "1").laws();
        CHECK.due("LAWS came", x.again(0), false);
        CHECK.due("LAWS came", x.again(2), false);
        CHECK.due("keep(0)", x.keep(0), true);
        CHECK.due("again(0)", x.again(0), true);
        Check.text(x, "1").people();
        CHECK.due("PEOPLE came", x.again(0), false);
    }
}
