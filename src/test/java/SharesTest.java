/** Promises 28 to 34 and 43: whose bits they are, votes, chances. */
public final class SharesTest {
    private static final Check CHECK = new Check("SharesTest");

    public static void main(String[] args) {
        whole();
        quorum();
        awards();
        awardsAreTheLeastRow();
        needs();
        line();
        power();
        least();
        odds();
        CHECK.end();
    }

    /** PEOPLE all in STREET 0, calm: each DAY each picks up one BIT, by their numbers. */
    private static ConfettiMinutes crowd(String laws, String people, String acts) {
        ConfettiMinutes x = Check.town(laws, people);
        CHECK.wed(x, "w+0" + acts);
        return x;
    }

    private static void whole() {
        ConfettiMinutes x = crowd("4;2;1", "0;0;0", "c0t00");
        CHECK.due("none is HELD", x.whole(0), -2);
        CHECK.due("not FLUNG", x.whole(1), -2);
        CHECK.due("none such", x.whole(3), -1);
        CHECK.due("none such", x.whole(-1), -1);
        x.days(1);
        CHECK.due("three of four are HELD", x.whole(0), -2);
        x.days(1);
        CHECK.due("all are HELD by three", x.whole(0), 3);
        CHECK.row("all are HELD by three", x, 7);
        x.gives(1, 0, 0);
        CHECK.due("by two", x.whole(0), 2);
        CHECK.row("by two", x, 5);
        x.gives(0, 2, 0);
        CHECK.due("by one", x.whole(0), 1);
        CHECK.row("by one", x, 4);
        CHECK.due("CARRIED, not FLUNG", Check.text(x, "c1").wedding(), 1);
        CHECK.due("CARRIED, not FLUNG", x.whole(1), -2);
        CHECK.row("the wedding", x, 0, 4);
    }

    private static void quorum() {
        ConfettiMinutes x = crowd("1;2;3", "0;0;0;5", "");
        CHECK.due("nothing is HELD", x.quorum(), 0);
        CHECK.row("nothing is HELD", x, 0, 0);
        CHECK.wed(x, "c0c1c2t00n1");
        CHECK.due("one LAW", x.quorum(), 1);
        CHECK.row("one LAW", x, 1, 1);
        CHECK.wed(x, "t10n1");
        CHECK.due("two LAWS", x.quorum(), 1);
        CHECK.row("two LAWS", x, 1, 2);
        CHECK.wed(x, "g031t20n1");
        CHECK.due("three LAWS", x.quorum(), 2);
        CHECK.row("three LAWS", x, 3, 3);
        CHECK.wed(x, "g032");
        CHECK.due("of as few the least", x.quorum(), 2);
        CHECK.row("of as few the least", x, 3, 3);
        CHECK.wed(x, "g131");
        CHECK.due("of as few the least", x.quorum(), 2);
        CHECK.row("of as few the least", x, 9, 3);
        CHECK.wed(x, "g030");
        CHECK.due("one has of all", x.quorum(), 1);
        CHECK.row("one has of all", x, 8, 3);
    }

    private static void awards() {
        ConfettiMinutes x = crowd("4;4;3", "0;0;0", "");
        CHECK.due("nothing is HELD", x.awards(), 0);
        CHECK.row("nothing is HELD", x, -1, -1, -1);
        CHECK.wed(x, "c0c1c2t00n1");
        CHECK.due("one LAW", x.awards(), 1);
        CHECK.row("one LAW, the least row", x, 0, -1, -1);
        CHECK.wed(x, "n1t10n1");
        CHECK.due("HELD", x.count(7), 7);
        CHECK.due("two LAWS", x.awards(), 3);
        CHECK.row("two LAWS", x, 0, 1, -1);
        CHECK.wed(x, "g100g200");
        CHECK.due("all of one", x.awards(), 5);
        CHECK.row("all of one", x, 0, 1, -1);
        CHECK.wed(x, "g101g201");
        CHECK.due("one has all of two LAWS", x.awards(), 4);
        CHECK.row("one has all of two LAWS", x, 0, -1, -1);
    }

    private static void awardsAreTheLeastRow() {
        ConfettiMinutes x = crowd("2;2", "0;0", "c0c1t00n1t10n1");
        CHECK.due("each has one of each", x.awards(), 2);
        CHECK.row("each has one of each", x, 0, 1);
        ConfettiMinutes y = crowd("1;1", "0", "c0c1t00t10n2");
        CHECK.due("one has both", y.awards(), 1);
        CHECK.row("nobody ahead of one", y, -1, 0);
        ConfettiMinutes z = crowd("4;4;4;4;4", "0;0;0;0;0", "c0c1c2c3c4t00t10t20t30t40n4");
        CHECK.due("five LAWS", z.awards(), 5);
        CHECK.row("five LAWS", z, 0, 1, 3, 2, 4);
        ConfettiMinutes none = new ConfettiMinutes();
        CHECK.due("no LAWS", none.awards(), 0);
        CHECK.row("no LAWS", none);
    }

    private static void needs() {
        ConfettiMinutes x = crowd("4;3;2;1", "0;0", "c0t00");
        CHECK.due("all lie", x.needs(0, 0), -2);
        CHECK.due("not FLUNG", x.needs(0, 1), -2);
        CHECK.due("none such", x.needs(2, 0), -1);
        CHECK.due("none such", x.needs(0, 4), -1);
        CHECK.due("none such", x.needs(-1, 0), -1);
        x.days(1);
        CHECK.due("two of four lie", x.needs(0, 0), -2);
        x.days(1);
        CHECK.due("he HOLDS two of four", x.needs(0, 0), 1);
        CHECK.row("he HOLDS two of four", x, 2);
        CHECK.wed(x, "c1t10n1");
        CHECK.due("he HOLDS one of three, one lies", x.needs(0, 1), 1);
        CHECK.row("he HOLDS one of three, one lies", x, 1);
        x.days(1);
        CHECK.due("he has a RIGHT", x.needs(0, 1), 0);
        CHECK.row("he has a RIGHT", x, 2);
        x.gives(1, 0, 0);
        CHECK.due("he has none", x.needs(1, 0), 3);
        CHECK.row("he has none", x, 0);
        CHECK.due("he has all", x.needs(0, 0), 0);
        CHECK.row("he has all", x, 4);
        CHECK.wed(x, "c2t20n1");
        CHECK.due("one of two", x.needs(1, 2), 1);
        CHECK.row("one of two", x, 1);
    }

    private static void line() {
        ConfettiMinutes x = crowd("4;3", "0;0;0;7", "");
        CHECK.due("like ones", x.line(), 4);
        CHECK.row("like ones", x, 0, 1, 2, 3);
        CHECK.wed(x, "c0t00n1g230");
        x.days(1);
        CHECK.due("by BITS", x.line(), 4);
        CHECK.row("by BITS", x, 0, 1, 3, 2);
        CHECK.wed(x, "c1t10n1g231");
        CHECK.row("HELD", x, 0, 7);
        CHECK.due("of all LAWS", x.line(), 4);
        CHECK.row("of all LAWS", x, 0, 1, 3, 2);
        CHECK.wed(x, "g030");
        CHECK.due("the most first", x.line(), 4);
        CHECK.row("the most first", x, 3, 1, 0, 2);
        ConfettiMinutes none = new ConfettiMinutes();
        none.days(1);
        CHECK.due("no PEOPLE", none.line(), 0);
        CHECK.row("no PEOPLE", none);
    }

    private static void power() {
        ConfettiMinutes x = crowd("4;4", "0;0;0", "c0t00");
        CHECK.due("none such", x.power(3), -1);
        CHECK.due("none such", x.power(-1), -1);
        CHECK.due("nothing is HELD", x.power(0), 0);
        CHECK.row("nothing is HELD", x, 0, 1);
        x.days(1);
        CHECK.due("1 1 1", x.power(2), 0);
        CHECK.row("1 1 1", x, 1, 2);
        x.days(1);
        CHECK.due("2 1 1", x.power(0), 0);
        CHECK.row("2 1 1", x, 3, 4);
        CHECK.due("2 1 1", x.power(1), 0);
        CHECK.row("2 1 1", x, 1, 4);
        x.gives(1, 0, 0);
        CHECK.due("3 0 1", x.power(0), 0);
        CHECK.row("3 0 1", x, 1, 1);
        CHECK.due("3 0 1", x.power(2), 0);
        CHECK.row("3 0 1", x, 0, 1);
        ConfettiMinutes y = crowd("4;4", "0", "c0t00n1");
        CHECK.due("one alone", y.power(0), 0);
        CHECK.row("one alone", y, 1, 1);
        ConfettiMinutes z = crowd("4;1", "0;0;0;0;0", "c0c1t00t10n1");
        CHECK.due("five like ones", z.power(4), 0);
        CHECK.row("five like ones", z, 3, 8);
    }

    private static void least() {
        ConfettiMinutes x = crowd("4;4", "0;0;0", "c0t00");
        CHECK.due("nothing is HELD", x.least(), 0);
        CHECK.row("nothing is HELD", x);
        x.days(1);
        CHECK.due("1 1 1", x.least(), 3);
        CHECK.row("1 1 1", x, 3);
        x.days(1);
        CHECK.due("2 1 1", x.least(), 2);
        CHECK.row("2 1 1", x, 3);
        x.gives(0, 2, 0);
        CHECK.due("0 1 3", x.least(), 1);
        CHECK.row("0 1 3", x, 4);
        x.gives(2, 1, 0);
        CHECK.due("0 4 0", x.least(), 1);
        CHECK.row("0 4 0", x, 2);
        ConfettiMinutes z = crowd("4;1", "0;0;0;0;0", "c0c1t00t10n1");
        CHECK.due("five like ones", z.least(), 10);
        CHECK.row("five like ones", z, 7);
    }

    private static void odds() {
        ConfettiMinutes x = crowd("4;3;1", "0;0", "c0t00n4");
        CHECK.due("half of four", x.odds(0, 0, 0), 0);
        CHECK.row("half of four", x, 0, 1);
        x.gives(1, 0, 0);
        CHECK.due("all of four, none lost", x.odds(0, 0, 0), 0);
        CHECK.row("all of four, none lost", x, 1, 1);
        CHECK.due("all of four, by halves", x.odds(0, 0, 5), 0);
        CHECK.row("all of four, by halves", x, 5, 16);
        CHECK.due("all of four, by tenths", x.odds(0, 0, 1), 0);
        CHECK.row("all of four, by tenths", x, 9477, 10000);
        CHECK.due("all of four, by nine tenths", x.odds(0, 0, 9), 0);
        CHECK.row("all of four, by nine tenths", x, 37, 10000);
        CHECK.due("all lost", x.odds(0, 0, 10), 0);
        CHECK.row("all lost", x, 0, 1);
        CHECK.due("not FLUNG", x.odds(0, 1, 3), 0);
        CHECK.row("not FLUNG", x, 0, 1);
        CHECK.wed(x, "c1t10n2");
        CHECK.due("two of three, 3 tenths", x.odds(0, 1, 3), 0);
        CHECK.row("two of three, 3 tenths", x, 49, 100);
        CHECK.wed(x, "c2t20n1");
        CHECK.due("one of one, 4 tenths", x.odds(0, 2, 4), 0);
        CHECK.row("one of one, 4 tenths", x, 3, 5);
        int[][] none = {{2, 0, 1}, {-1, 0, 1}, {0, 3, 1}, {0, -1, 1}, {0, 0, 11}, {0, 0, -1}};
        for (int[] a : none) {
            CHECK.due("odds of others", x.odds(a[0], a[1], a[2]), -1);
            CHECK.row("odds of others", x, 3, 5);
        }
    }
}
