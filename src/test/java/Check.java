import java.nio.charset.StandardCharsets;
import java.util.NoSuchElementException;

/** Counts what is not as due, and feeds texts. */
final class Check {
    interface Call {
        long get();
    }

    static final long NO_SUCH = Long.MIN_VALUE;
    static final long ILLEGAL = Long.MIN_VALUE + 1;

    private static int wrong = 0;
    private static int made = 0;

    private Check() {
    }

    static long answer(Call call) {
        try {
            return call.get();
        } catch (NoSuchElementException e) {
            return NO_SUCH;
        } catch (IllegalArgumentException e) {
            return ILLEGAL;
        }
    }

    static String told(long answer) {
        if (answer == NO_SUCH) {
            return "throws NoSuchElementException";
        }
        return answer == ILLEGAL ? "throws IllegalArgumentException" : Long.toString(answer);
    }

    static void due(String what, long want, Call call) {
        made++;
        String got;
        try {
            long answer = answer(call);
            if (answer == want) {
                return;
            }
            got = told(answer);
        } catch (RuntimeException e) {
            got = "throws " + e;
        }
        wrong++;
        System.out.println(what + ": " + got + ", due is " + told(want));
    }

    static void fail(String what) {
        made++;
        wrong++;
        System.out.println(what);
    }

    static void holds(String what, boolean is) {
        made++;
        if (!is) {
            wrong++;
            System.out.println(what);
        }
    }

    static int wrong() {
        return wrong;
    }

    static void end(String name) {
        System.out.println(name + ": " + (made - wrong) + " of " + made + " checks as due");
        if (wrong != 0 || made == 0) {
            System.exit(1);
        }
    }

    /** The numbers of the feed calls that bring this text, filled up with blanks. */
    static int[] fed(byte[] text) {
        int[] numbers = new int[(text.length + 19) / 20 * 5];
        for (int i = 0; i < numbers.length * 4; i++) {
            int b = i < text.length ? text[i] & 255 : ' ';
            numbers[i / 4] = numbers[i / 4] << 8 | b;
        }
        return numbers;
    }

    static byte[] bytes(String text) {
        return text.getBytes(StandardCharsets.ISO_8859_1);
    }

    static void feed(TownTune x, String text) {
        int[] n = fed(bytes(text));
        for (int i = 0; i < n.length; i += 5) {
            x.feed(n[i], n[i + 1], n[i + 2], n[i + 3], n[i + 4]);
        }
    }

    static int tell(TownTune x, String text) {
        feed(x, text);
        return x.town(text.length());
    }

    /** A new object that was told this town, which must have no fault. */
    static TownTune of(String text) {
        TownTune x = new TownTune();
        int fault = tell(x, text);
        if (fault != 0) {
            fail("fault " + fault + " at " + x.fault() + " in a text that has none: " + text);
        }
        return x;
    }

    /** The tune as a text: 0 to 9, a, b, and . for a rest. */
    static String tune(TownTune x) {
        StringBuilder b = new StringBuilder();
        for (int i = 0; i < x.count(4); i++) {
            b.append("0123456789ab.".charAt(x.sign(i, 0)));
        }
        return b.toString();
    }

    static void dueTune(String what, String want, TownTune x) {
        String got = tune(x);
        holds(what + ": the tune is " + got + ", due is " + want, got.equals(want));
    }
}
