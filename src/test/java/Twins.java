import java.util.NoSuchElementException;

/** Two objects that have seen the same calls: what one call more changed is what they tell apart afterwards. */
final class Twins {
    private static final int[] BITS = {3, 2, 4, 1};
    private static final int PEOPLE = 4;

    final ConfettiMinutes first = lived();
    final ConfettiMinutes second = lived();

    interface Call {
        Object answer(ConfettiMinutes x);
    }

    /** An object in which as much as may be has been done, told, kept, heard; its ROW is 2, 0, 1, 3. */
    static ConfettiMinutes lived() {
        ConfettiMinutes x = Check.town("3;2;4;1", "0;3;3;7");
        Check.text(x, "w+i-1").rule();
        x.keep(2);
        x.wind(2);
        Check.text(x, "c0c1c2t06t10").wedding();
        x.days(1);
        x.walks(0, 3);
        x.keep(0);
        x.days(1);
        x.gives(3, 2, 0);
        x.walks(2, 4);
        x.seen(0, 2, 7);
        x.seen(1, 1, 6);
        x.heard(1, 1);
        x.heard(0, 4);
        x.went(1, 1, 1);
        x.went(0, 0, 0);
        x.line();
        return Check.text(x, "6");
    }

    /** All that can be asked of an object, at last of what can be undone, is kept, stands in THE TEXT: some 400 calls. */
    static String all(ConfettiMinutes x, boolean withRow) {
        StringBuilder s = new StringBuilder();
        s.append(withRow ? Check.rowOf(x).toString() : "").append(withRow ? x.count(12) : 0);
        for (int what = 0; what <= 13; what++) {
            s.append(what == 12 ? "" : " " + x.count(what));
        }
        s.append(town(x)).append(rights(x)).append(answers(x));
        for (int left = x.undo(); left >= 0; left = x.undo()) {
            s.append(" undo ").append(left).append(town(x));
        }
        for (int i = 0; i < 3; i++) {
            s.append(" again ").append(x.again(i)).append(town(x));
        }
        s.append(" text ").append(x.people()).append(' ').append(x.count(1));
        return s.append(' ').append(answerOf(x, y -> y.one(PEOPLE, 0))).toString();
    }

    /** What undo() brings back. */
    private static String town(ConfettiMinutes x) {
        StringBuilder s = new StringBuilder();
        for (int what = 2; what <= 7; what++) {
            s.append(' ').append(x.count(what));
        }
        for (int law = 0; law < BITS.length; law++) {
            for (int bit = 0; bit < BITS[law]; bit++) {
                s.append(' ').append(x.bit(law, bit));
            }
        }
        for (int one = 0; one < PEOPLE; one++) {
            s.append(' ').append(x.one(one, 0));
        }
        return s.toString();
    }

    private static String rights(ConfettiMinutes x) {
        StringBuilder s = new StringBuilder(" rights");
        for (int law = 0; law < BITS.length; law++) {
            s.append(' ').append(x.law(law, 5));
        }
        return s.toString();
    }

    /** What was seen, heard, told and THE RULE show themselves in these. */
    private static String answers(ConfettiMinutes x) {
        int[] answers = {x.guess(), x.looks(), x.fits(), x.asks(), x.scatters(), x.tries(), x.later(0, 2, 1),
            x.later(1, 0, 1), x.later(1, 1, 1), x.drifts(1)};
        StringBuilder s = new StringBuilder(" answers");
        for (int answer : answers) {
            s.append(' ').append(answer);
        }
        return s.append(Check.rowOf(x)).toString();
    }

    static String answerOf(ConfettiMinutes x, Call call) {
        try {
            return String.valueOf(call.answer(x));
        } catch (NoSuchElementException e) {
            return "NoSuchElementException";
        }
    }
}
