import java.nio.charset.StandardCharsets;
import java.util.NoSuchElementException;

/** What every test of the project uses: answers that are due, and texts fed by the tape. */
final class Due {
    static final long OUTSIDE = Long.MIN_VALUE + 1;
    static final long NO_SUCH = Long.MIN_VALUE + 2;

    private static int wrong = 0;
    private static int asked = 0;

    private Due() {
    }

    static void due(String call, long got, long want) {
        asked++;
        if (got != want) {
            wrong++;
            System.out.println(call + " answered " + got + ", due is " + want);
        }
    }

    static void due(String call, boolean got, boolean want) {
        due(call, got ? 1 : 0, want ? 1 : 0);
    }

    /** look() with its exceptions as numbers. */
    static long look(ConfessionMill mill, int person, int what) {
        try {
            return mill.look(person, what);
        } catch (IndexOutOfBoundsException e) {
            return OUTSIDE;
        } catch (NoSuchElementException e) {
            return NO_SUCH;
        }
    }

    static byte[] bytesOf(String text) {
        return text.getBytes(StandardCharsets.ISO_8859_1);
    }

    /** The numbers that feed a text, five for each call, with blanks behind its end. */
    static int[] numbersOf(String text) {
        byte[] bytes = bytesOf(text);
        int[] numbers = new int[(bytes.length + 19) / 20 * 5];
        for (int k = 0; k < numbers.length * 4; k++) {
            int sign = k < bytes.length ? bytes[k] & 255 : 32;
            numbers[k / 4] = numbers[k / 4] << 8 | sign;
        }
        return numbers;
    }

    static int tell(ConfessionMill mill, String text) {
        int[] n = numbersOf(text);
        for (int k = 0; k < n.length; k += 5) {
            mill.feed(n[k], n[k + 1], n[k + 2], n[k + 3], n[k + 4]);
        }
        return mill.text(bytesOf(text).length);
    }

    /** A mill under a text that has no fault. */
    static ConfessionMill mill(String text) {
        ConfessionMill mill = new ConfessionMill();
        int lines = tell(mill, text);
        if (lines < 0) {
            due("text of " + text, mill.fault(0) * 1000L + mill.fault(1), 0);
        }
        return mill;
    }

    /** A text with a fault at a place, told to a new mill. */
    static void faultIs(String text, int what, int place) {
        ConfessionMill mill = new ConfessionMill();
        due("text of [" + text + "]", tell(mill, text), -1);
        due("fault(0) of [" + text + "]", mill.fault(0), what);
        due("fault(1) of [" + text + "]", mill.fault(1), place);
    }

    /** A text without a fault, told to a new mill. */
    static void linesAre(String text, int lines) {
        ConfessionMill mill = new ConfessionMill();
        due("text of [" + text + "]", tell(mill, text), lines);
        due("fault(0) of [" + text + "]", mill.fault(0), 0);
        due("fault(1) of [" + text + "]", mill.fault(1), -1);
    }

    static int letters(String name) {
        int code = 0;
        for (int k = 0; k < 6; k++) {
            code = code << 5 | (k < name.length() ? name.charAt(k) - 96 : 0);
        }
        return code;
    }

    static void end(String test) {
        System.out.println(test + ": " + asked + " answers, " + wrong + " not as due");
        if (wrong != 0) {
            System.exit(1);
        }
    }
}
