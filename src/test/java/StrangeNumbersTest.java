import java.util.ArrayList;
import java.util.Arrays;
import java.util.List;
import java.util.Random;

/**
 * Numbers of all sizes in all places of all calls, on objects in many states: no call throws but those that the document
 * says may, and those throw nothing but NoSuchElementException; and an answer depends on the calls alone.
 */
public final class StrangeNumbersTest {
    private static final Check CHECK = new Check("StrangeNumbersTest");
    private static final int[] STRANGE = {Integer.MIN_VALUE, Integer.MIN_VALUE + 1, -1073741824, -65536, -10001, -101, -61,
        -21, -20, -10, -8, -4, -3, -2, -1, 0, 1, 2, 3, 4, 5, 6, 7, 8, 9, 10, 11, 12, 13, 14, 15, 18, 19, 20, 21, 30, 31, 32,
        60, 61, 63, 64, 80, 81, 100, 255, 256, 10000, 65535, 65536, 1 << 30, Integer.MAX_VALUE - 1, Integer.MAX_VALUE};
    /** With those by which Twins live these are 512 at most. */
    private static final int CALLS = 450;

    public static void main(String[] args) {
        for (String name : Face.names()) {
            eachPlace(name);
        }
        for (int run = 0; run < 200; run++) {
            drawn(run);
        }
        CHECK.end();
    }

    private static ConfettiMinutes[] states() {
        ConfettiMinutes full = Check.town("4;4;4;4;4", "0;0;0;0;0");
        Check.text(full, "w+0c0c1c2c3c4t00t10t20t30t40n4").wedding();
        ConfettiMinutes lying = Check.town("4;4;4;4;4", "");
        Check.text(lying, "c0c1c2c3c4t00t11t22t33t47").wedding();
        return new ConfettiMinutes[] {new ConfettiMinutes(), Twins.lived(), full, lying, Check.town("", "7"),
            Check.text(Check.town("1", ""), "x".repeat(80))};
    }

    /** One place has a strange number, the others stay where they may name something. */
    private static void eachPlace(String name) {
        int places = Face.numbersOf(name);
        for (int place = 0; place < Math.max(1, places); place++) {
            for (int other = 0; other < 3; other++) {
                ConfettiMinutes[] states = states();
                for (int strange : STRANGE) {
                    int[] numbers = new int[places];
                    Arrays.fill(numbers, other);
                    if (places > 0) {
                        numbers[place] = strange;
                    }
                    for (ConfettiMinutes x : states) {
                        look(name, numbers, Face.answer(x, name, numbers));
                    }
                }
            }
        }
    }

    /** Two objects get the same calls, one by one, so that what one object is told can't reach the other. */
    private static void drawn(int seed) {
        Random random = new Random(seed);
        ConfettiMinutes x = seed % 2 == 0 ? new ConfettiMinutes() : Twins.lived();
        ConfettiMinutes y = seed % 2 == 0 ? new ConfettiMinutes() : Twins.lived();
        List<String> names = new ArrayList<>();
        Face.names().forEach(names::add);
        for (int n = 0; n < CALLS; n++) {
            String name = names.get(random.nextInt(names.size()));
            int[] numbers = new int[Face.numbersOf(name)];
            for (int i = 0; i < numbers.length; i++) {
                numbers[i] = random.nextInt(4) == 0 ? STRANGE[random.nextInt(STRANGE.length)] : random.nextInt(4);
            }
            String answer = Face.answer(x, name, numbers);
            look(name, numbers, answer);
            String same = Face.answer(y, name, numbers);
            CHECK.due("run " + seed + ", call " + n + " of two like objects is alike", answer.equals(same), true);
        }
    }

    private static void look(String name, int[] numbers, String answer) {
        boolean thrown = Character.isUpperCase(answer.charAt(0));
        boolean fine = !thrown || Face.mayThrow(name) && answer.equals("NoSuchElementException");
        CHECK.due(name + Arrays.toString(numbers) + " answers " + answer, fine, true);
    }
}
