import java.nio.charset.StandardCharsets;
import java.util.function.IntPredicate;

/** What the tests share: counting wrong answers, edges of numbers, feeding a text to the tape. */
final class Check {
    private static int wrong = 0;
    private static int asked = 0;

    private Check() {
    }

    static void due(String call, long want, long got) {
        asked++;
        if (got != want) {
            wrong++;
            if (wrong <= 50) {
                System.out.println(call + " answered " + got + ", due is " + want);
            }
        }
    }

    static void due(String call, boolean want, boolean got) {
        due(call, want ? 1 : 0, got ? 1 : 0);
    }

    /** The last numbers that can be, the first ones that can't, and those where an int wraps. */
    static void range(String what, int least, int most, IntPredicate can) {
        due(what + " " + least + " (the least)", true, can.test(least));
        due(what + " " + most + " (the most)", true, can.test(most));
        due(what + " " + (least - 1), false, can.test(least - 1));
        due(what + " " + (most + 1), false, can.test(most + 1));
        due(what + " " + Integer.MIN_VALUE, false, can.test(Integer.MIN_VALUE));
        due(what + " " + Integer.MAX_VALUE, false, can.test(Integer.MAX_VALUE));
    }

    static int wrongSoFar() {
        return wrong;
    }

    /** Five numbers that hold twenty bytes of a text, from a place on (blanks behind its end). */
    static int[] five(String text, int from) {
        byte[] bytes = text.getBytes(StandardCharsets.ISO_8859_1);
        int[] five = new int[5];
        for (int k = 0; k < 20; k++) {
            int one = from + k < bytes.length ? bytes[from + k] & 255 : ' ';
            five[k / 4] = five[k / 4] << 8 | one;
        }
        return five;
    }

    static int feed(HoneyHouse house, int[] five) {
        return house.feed(five[0], five[1], five[2], five[3], five[4]);
    }

    /** Puts a text (characters 0 to 255) on an empty tape. */
    static void type(HoneyHouse house, String text) {
        for (int at = 0; at < text.length(); at += 20) {
            feed(house, five(text, at));
        }
        house.end(text.length());
    }

    static int tell(HoneyHouse house, String text) {
        type(house, text);
        return house.rule();
    }

    static void finish() {
        System.out.println(asked + " answers, " + wrong + " wrong");
        if (wrong != 0) {
            System.exit(1);
        }
    }
}
