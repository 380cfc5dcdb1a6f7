import java.util.ArrayList;
import java.util.List;
import java.util.NoSuchElementException;

/** Counts answers that are not as due, and prints them; what all tests of the project share. */
final class Check {
    private final String name;
    private String about = "";
    private int asked;
    private int wrong;

    Check(String name) {
        this.name = name;
    }

    /** What the answers are about from now on, as faults are to tell it. */
    void about(String words) {
        about = words;
    }

    int asked() {
        return asked;
    }

    void due(String call, long got, long want) {
        asked++;
        if (got != want) {
            fault(call + " answered " + got + ", due is " + want);
        }
    }

    void due(String call, boolean got, boolean want) {
        due(call, got ? 1L : 0L, want ? 1L : 0L);
    }

    /** The whole ROW, and that nothing stands behind it. */
    void row(String call, ConfettiMinutes x, long... want) {
        asked++;
        List<Long> due = new ArrayList<>();
        for (long number : want) {
            due.add(number);
        }
        List<Long> got = rowOf(x);
        if (!got.equals(due) || x.count(12) != want.length) {
            fault("the ROW behind " + call + " is " + got + " (count " + x.count(12) + "), due is " + due);
        }
    }

    void noSuch(String call, Call asking) {
        asked++;
        try {
            fault(call + " answered " + asking.answer() + ", due is NoSuchElementException");
        } catch (NoSuchElementException e) {
            // as due
        } catch (RuntimeException e) {
            fault(call + " threw " + e + ", due is NoSuchElementException");
        }
    }

    void fault(String what) {
        wrong++;
        System.out.println(name + ": " + about + what);
    }

    void end() {
        System.out.println(name + ": " + asked + " asked, " + wrong + " wrong");
        if (wrong != 0 || asked == 0) {
            System.exit(1);
        }
    }

    static List<Long> rowOf(ConfettiMinutes x) {
        List<Long> row = new ArrayList<>();
        for (int i = 0; i < 100; i++) {
            try {
                row.add(x.row(i));
            } catch (NoSuchElementException e) {
                return row;
            }
        }
        return row;
    }

    /** THE TEXT becomes these signs. */
    static ConfettiMinutes text(ConfettiMinutes x, String signs) {
        x.end(0);
        for (int p = 0; p < signs.length(); p += 4) {
            int v = 0;
            for (int j = p; j < p + 4; j++) {
                v = v << 8 | (j < signs.length() ? signs.charAt(j) : 0);
            }
            x.sign(v);
        }
        x.end(signs.length());
        return x;
    }

    static ConfettiMinutes town(String laws, String people) {
        ConfettiMinutes x = new ConfettiMinutes();
        text(x, laws).laws();
        text(x, people).people();
        return x;
    }

    /** A WEDDING whose acts are all done, or it is said that one is not. */
    void wed(ConfettiMinutes x, String acts) {
        text(x, acts).wedding();
        due("the wedding " + acts + " refuses", x.row(0), 0);
    }

    interface Call {
        long answer();
    }
}
