/** Promises 21 to 27: days to come, and so that one has a right. */
public final class DaysToComeTest {
    private static final Check CHECK = new Check("DaysToComeTest");

    public static void main(String[] args) {
        later();
        when();
        clean();
        drifts();
        aims();
        prays();
        seeks();
        CHECK.end();
    }

    private static void later() {
        ConfettiMinutes x = Check.town("3;1", "2;4");
        CHECK.wed(x, "c0t00");
        CHECK.due("later(0, 0, 0)", x.later(0, 0, 0), 0);
        CHECK.row("later(0, 0, 0)", x, 3, 0);
        CHECK.due("later(0, 0, 1)", x.later(0, 0, 1), 1);
        CHECK.row("later(0, 0, 1)", x, 3, 0);
        CHECK.due("later(0, 0, 2)", x.later(0, 0, 2), 10);
        CHECK.row("later(0, 0, 2)", x, 2, 1);
        CHECK.due("later(0, 1, 4)", x.later(0, 1, 4), 11);
        CHECK.row("later(0, 1, 4)", x, 1, 2);
        CHECK.due("later(0, 2, 60)", x.later(0, 2, 60), 7);
        CHECK.row("later(0, 2, 60)", x, 1, 2);
        CHECK.due("later(1, 0, 60)", x.later(1, 0, 60), 20);
        CHECK.due("DAY stays", x.count(3), 0);
        CHECK.due("BITS stay", x.bit(0, 0), 0);
        CHECK.row("later(1, 0, 60)", x, 1, 2);
        int[][] none = {{0, 0, -1}, {0, 0, 61}, {0, 3, 1}, {0, -1, 1}, {2, 0, 1}, {-1, 0, 1}, {1, 1, 1}};
        for (int[] a : none) {
            CHECK.due("later of others", x.later(a[0], a[1], a[2]), -1);
            CHECK.row("later of others", x, 1, 2);
        }
    }

    private static void when() {
        ConfettiMinutes x = Check.town("3;1", "7;7");
        CHECK.wed(x, "c0t05");
        CHECK.due("when(1, 0)", x.when(1, 0), -2);
        CHECK.row("when(1, 0)", x, 0, 0);
        CHECK.due("when(0, 0)", x.when(0, 0), 3);
        CHECK.row("when(0, 0)", x, 2, 0);
        CHECK.due("not FLUNG", x.when(0, 1), -2);
        CHECK.due("none such", x.when(2, 0), -1);
        CHECK.due("none such", x.when(0, 2), -1);
        CHECK.due("none such", x.when(-1, 0), -1);
        CHECK.row("those", x, 2, 0);
        CHECK.wed(x, "c1t10n3");
        CHECK.due("he has", x.when(0, 0), 0);
        CHECK.row("he has", x, 2, 1);
        CHECK.due("behind four DAYS more", x.when(0, 1), 4);
        CHECK.row("behind four DAYS more", x, 1, 0);
        ConfettiMinutes y = Check.town("1", "7");
        Check.text(y, "n=3").rule();
        CHECK.wed(y, "c0t00n4");
        CHECK.due("on the 46th DAY", y.when(0, 0), 42);
        y.undo();
        CHECK.wed(y, "n5c0t00");
        CHECK.due("on the 48th DAY", y.when(0, 0), 48);
        y.undo();
        CHECK.wed(y, "w-3n3c0t00");
        CHECK.due("on DAY 43", y.when(0, 0), 43);
        Check.text(y, "(n=3)*(w+4)").rule();
        CHECK.due("on DAY 43", y.when(0, 0), 43);
        ConfettiMinutes z = Check.town("1", "7");
        CHECK.wed(z, "w+0c0t00");
        CHECK.due("never", z.when(0, 0), -2);
        CHECK.due("at the last", slow("4;4;1;4", "c3t30").when(0, 3), 60);
        CHECK.due("a DAY too late", slow("4;4;2;4", "c3t30").when(0, 3), -2);
    }

    /** BITS come to STREET 7 behind 49 DAYS, and from the 49th on one of them is picked up each DAY. */
    private static ConfettiMinutes slow(String laws, String acts) {
        ConfettiMinutes x = Check.town(laws, "7");
        Check.text(x, "n=3").rule();
        CHECK.wed(x, "n4c0c1c2t00t10t20" + acts);
        return x;
    }

    private static void clean() {
        ConfettiMinutes x = Check.town("3;2", "7;7");
        CHECK.due("nothing lies", x.clean(), 0);
        CHECK.row("nothing lies", x, 0);
        CHECK.wed(x, "c0c1t05t17");
        CHECK.due("clean()", x.clean(), 3);
        CHECK.row("clean()", x, 1);
        CHECK.due("DAY stays", x.count(3), 0);
        CHECK.wed(x, "p00p10");
        CHECK.due("never", x.clean(), -2);
        CHECK.row("never", x, 0, 0);
        CHECK.wed(x, "s0s1");
        CHECK.due("swept up", x.clean(), 0);
        ConfettiMinutes y = Check.town("1", "7");
        Check.text(y, "(n=3)").rule();
        CHECK.wed(y, "c0t00");
        CHECK.due("on the 46th DAY", y.clean(), 46);
        CHECK.row("on the 46th DAY", y, 1);
        CHECK.due("at the last", slow("4;4;4", "").clean(), 60);
        CHECK.due("a DAY too late", slow("4;4;4;1", "c3t30").clean(), -2);
    }

    private static void drifts() {
        ConfettiMinutes x = Check.town("3;2", "7");
        CHECK.due("drifts(61)", x.drifts(61), -1);
        CHECK.due("drifts(-1)", x.drifts(-1), -1);
        CHECK.row("refused ones", x);
        CHECK.due("drifts(0)", x.drifts(0), 0);
        CHECK.row("drifts(0)", x, 0, 0, 0, 0, 0, 0, 0, 0, 0);
        Check.text(x, "i").rule();
        CHECK.wed(x, "c0c1t02t12");
        CHECK.due("drifts(0)", x.drifts(0), 5);
        CHECK.row("drifts(0)", x, 2, 0, 0, 5, 0, 0, 0, 0, 0);
        CHECK.due("drifts(1)", x.drifts(1), 2);
        CHECK.row("drifts(1)", x, 2, 0, 0, 2, 2, 1, 0, 0, 0);
        CHECK.due("drifts(3)", x.drifts(3), 2);
        CHECK.row("drifts(3)", x, 2, 0, 0, 2, 0, 0, 2, 0, 0);
        CHECK.due("drifts(4)", x.drifts(4), 2);
        CHECK.row("drifts(4)", x, 2, 0, 0, 2, 0, 0, 0, 2, 0);
        CHECK.due("drifts(60)", x.drifts(60), 2);
        CHECK.row("drifts(60)", x, 2, 0, 0, 2, 0, 0, 0, 0, 0);
        ConfettiMinutes y = Check.town("3", "");
        CHECK.wed(y, "c0t00");
        CHECK.due("the fullest is 1", y.drifts(1), 3);
        CHECK.row("the fullest is 1", y, 1, 0, 3, 0, 0, 0, 0, 0, 0);
        CHECK.due("the fullest is 7", y.drifts(9), 3);
        CHECK.row("the fullest is 7", y, 7, 0, 0, 0, 0, 0, 0, 0, 3);
    }

    private static void aims() {
        ConfettiMinutes x = Check.town("3;1;1", "4;7");
        CHECK.due("none, as it is at once", x.aims(1, 0, 0), -2);
        CHECK.row("none", x);
        CHECK.due("one DAY", x.aims(1, 0, 1), 3);
        CHECK.row("one DAY", x, 1);
        CHECK.due("four DAYS", x.aims(1, 0, 4), 0);
        CHECK.row("four DAYS", x, 4);
        CHECK.due("the other one, two DAYS", x.aims(1, 1, 2), 5);
        CHECK.row("the other one, two DAYS", x, 3);
        CHECK.due("the other one, 30 DAYS", x.aims(1, 1, 30), 4);
        CHECK.row("the other one, 30 DAYS", x, 4);
        CHECK.due("three BITS, one DAY", x.aims(0, 1, 1), -2);
        CHECK.due("three BITS, two DAYS", x.aims(0, 1, 2), 6);
        CHECK.row("three BITS, two DAYS", x, 2);
        CHECK.due("it is not FLUNG by that", x.count(5), 0);
        x.carries(1);
        CHECK.due("CARRIED or not", x.aims(1, 0, 1), 3);
        x.flings(1, 0);
        CHECK.due("FLUNG", x.aims(1, 0, 1), -3);
        CHECK.due("FLUNG, too many DAYS", x.aims(1, 0, 31), -1);
        int[][] none = {{0, 0, -1}, {0, 0, 31}, {3, 0, 1}, {-1, 0, 1}, {0, 2, 1}, {0, -1, 1}};
        for (int[] a : none) {
            CHECK.due("aims of others", x.aims(a[0], a[1], a[2]), -1);
        }
        CHECK.due("an earlier LAW's BIT is picked up ahead of it", x.aims(2, 0, 4), 1);
        CHECK.row("an earlier LAW's BIT", x, 3);
    }

    private static void prays() {
        ConfettiMinutes x = Check.town("3;2", "4;1");
        CHECK.wed(x, "c0t02");
        CHECK.due("no DAY", x.prays(0, 0), 7);
        CHECK.row("no DAY", x, 0, 0);
        CHECK.due("one DAY", x.prays(0, 1), 12);
        CHECK.row("one DAY", x, 1, 0);
        CHECK.due("two DAYS", x.prays(0, 2), 11);
        CHECK.row("two DAYS", x, 1, 1);
        CHECK.due("the other one", x.prays(1, 1), 9);
        CHECK.row("the other one", x, 1, 0);
        CHECK.due("WIND stays", x.count(2), 11);
        CHECK.wed(x, "p05");
        CHECK.due("the highest wind", x.prays(0, 1), 13);
        CHECK.row("the highest wind", x, 1, 0);
        CHECK.wed(x, "p07w-1");
        CHECK.due("three DAYS", x.prays(0, 5), 12);
        CHECK.row("three DAYS", x, 3, 0);
        int[][] none = {{2, 1}, {-1, 1}, {0, -1}, {0, 31}};
        for (int[] a : none) {
            CHECK.due("prays of others", x.prays(a[0], a[1]), -1);
        }
        CHECK.row("refused ones", x, 3, 0);
    }

    private static void seeks() {
        ConfettiMinutes x = Check.town("3;2", "4;7");
        CHECK.wed(x, "c0t02");
        CHECK.due("no DAY", x.seeks(0, 0), 4);
        CHECK.row("no DAY", x, 0, 0);
        CHECK.due("one DAY", x.seeks(0, 1), 3);
        CHECK.row("one DAY", x, 1, 1);
        CHECK.due("two DAYS", x.seeks(0, 2), 4);
        CHECK.row("two DAYS", x, 1, 0);
        CHECK.due("many DAYS", x.seeks(0, 30), 7);
        CHECK.row("many DAYS", x, 2, 3);
        CHECK.due("STREET stays", x.one(0, 0), 4);
        ConfettiMinutes y = Check.town("2", "4");
        Check.text(y, "4*i-2").rule();
        CHECK.wed(y, "c0t04");
        CHECK.due("of equal ways the first STREET", y.seeks(0, 1), 2);
        CHECK.row("of equal ways the first STREET", y, 1, 2);
        y.walks(0, 5);
        CHECK.due("of equal ones the least way", y.seeks(0, 1), 6);
        CHECK.row("of equal ones the least way", y, 1, 1);
        CHECK.wed(y, "w-0s0c0t02");
        CHECK.due("STREET 4", y.seeks(0, 1), 4);
        Check.text(y, "0-9").rule();
        CHECK.due("STREET 0", y.seeks(0, 1), 0);
        CHECK.row("STREET 0", y, 1, 5);
        Check.text(y, "4*i-2").rule();
        CHECK.wed(y, "s0c0t04");
        y.seeks(0, 1);
        int[][] none = {{1, 1}, {-1, 1}, {0, -1}, {0, 31}};
        for (int[] a : none) {
            CHECK.due("seeks of others", y.seeks(a[0], a[1]), -1);
        }
        CHECK.row("refused ones", y, 1, 1);
    }
}
