import java.io.IOException;
import java.io.UncheckedIOException;
import java.nio.file.Files;
import java.nio.file.Path;
import java.util.Set;
import java.util.TreeSet;

/** Boundary cases of the document, each with a test of its own under the very words that name it. */
final class Edges {
    /** What stands ahead of promise 1. */
    static final int WHAT_IT_IS = -1;
    static final int TERMS = 0;
    private static final Path DOCUMENT = Path.of("../shared/DOC.md");

    private final Check check;
    private final String document;
    private final Set<Integer> met = new TreeSet<>();

    interface Trial {
        void run(Check c);
    }

    Edges(String name) {
        check = new Check(name);
        document = read();
    }

    /** A checkout without the document can still run the trials: the words alone are not looked up then. */
    private static String read() {
        if (!Files.isReadable(DOCUMENT)) {
            System.out.println("no " + DOCUMENT + ": words are not looked up");
            return "";
        }
        try {
            return Files.readString(DOCUMENT).replaceAll("\\s+", " ");
        } catch (IOException e) {
            throw new UncheckedIOException(e);
        }
    }

    /** The words must stand in the document as they are quoted, so that no test is left behind when it changes. */
    void edge(int promise, String words, Trial trial) {
        check.about(headOf(promise) + " '" + words + "': ");
        check.due("the document says so", document.isEmpty() || sectionOf(promise).contains(words), true);
        int asked = check.asked();
        try {
            trial.run(check);
        } catch (RuntimeException e) {
            check.fault("threw " + e);
        }
        check.due("something is asked", check.asked() > asked, true);
        check.about("");
        met.add(promise);
    }

    /** Each of these promises has been met. */
    void end(int... promises) {
        for (int promise : promises) {
            check.due("promise " + promise + " has an edge", met.contains(promise), true);
        }
        check.end();
    }

    private String sectionOf(int promise) {
        int from = document.indexOf(headOf(promise));
        if (from < 0) {
            return "";
        }
        int to = document.indexOf("## ", from + 3);
        return document.substring(from, to < 0 ? document.length() : to);
    }

    private static String headOf(int promise) {
        if (promise > TERMS) {
            return "## Promise " + promise + ":";
        }
        return promise == TERMS ? "## Terms" : "## What it is";
    }

    /** A town in which no wind blows, and these acts done: BITS stay, and one HOLDS a BIT more each DAY. */
    static ConfettiMinutes calm(String laws, String people, String acts) {
        ConfettiMinutes x = Check.town(laws, people);
        Check.text(x, "w+0" + acts).wedding();
        if (x.row(0) != 0) {
            throw new IllegalArgumentException("refused: " + acts);
        }
        return x;
    }

    /** A town with a rule, and these acts done. */
    static ConfettiMinutes ruled(String laws, String people, String rule, String acts) {
        ConfettiMinutes x = Check.town(laws, people);
        if (Check.text(x, rule).rule() != 0) {
            throw new IllegalArgumentException("no rule: " + rule);
        }
        Check.text(x, acts).wedding();
        if (x.row(0) != 0) {
            throw new IllegalArgumentException("refused: " + acts);
        }
        return x;
    }

    /** THE TEXT of so many signs, all alike. */
    static ConfettiMinutes signs(char sign, int n) {
        return Check.text(new ConfettiMinutes(), String.valueOf(sign).repeat(n));
    }
}
