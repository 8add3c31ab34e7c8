import java.util.function.LongSupplier;

/** Counts the answers that are not due; every test here ends with finish(). */
final class Check {
    private static int asked = 0;
    private static int wrong = 0;

    private Check() {
    }

    static void due(String call, long got, long want) {
        asked++;
        if (got != want) {
            wrong++;
            System.out.println(call + " answered " + got + ", due is " + want);
        }
    }

    static void due(String call, String got, String want) {
        asked++;
        if (!got.equals(want)) {
            wrong++;
            System.out.println(call + " answered " + got + ", due is " + want);
        }
    }

    static void throwing(Class<? extends RuntimeException> want, String call, LongSupplier made) {
        asked++;
        String got;
        try {
            got = "answered " + made.getAsLong();
        } catch (RuntimeException e) {
            if (e.getClass() == want) {
                return;
            }
            got = "threw " + e;
        }
        wrong++;
        System.out.println(call + " " + got + ", due is " + want.getSimpleName());
    }

    static int asked() {
        return asked;
    }

    static int wrong() {
        return wrong;
    }

    /** The call throws this, and nothing that can be seen of the object is another then. */
    static void refused(Class<? extends RuntimeException> want, String call, BearHouse x, LongSupplier made) {
        String before = Show.all(x);
        throwing(want, call, made);
        due("what can be seen behind " + call, Show.all(x), before);
    }

    static void badArgument(String call, LongSupplier made) {
        throwing(IllegalArgumentException.class, call, made);
    }

    static void badState(String call, LongSupplier made) {
        throwing(IllegalStateException.class, call, made);
    }

    static void noElement(String call, LongSupplier made) {
        throwing(java.util.NoSuchElementException.class, call, made);
    }

    static void noIndex(String call, LongSupplier made) {
        throwing(IndexOutOfBoundsException.class, call, made);
    }

    /** Feeds a text, filled up with blanks to a multiple of twenty bytes; answers its length. */
    static int feed(BearHouse x, String text) {
        byte[] bytes = new byte[(text.length() + 19) / 20 * 20];
        for (int k = 0; k < bytes.length; k++) {
            bytes[k] = (byte) (k < text.length() ? text.charAt(k) : ' ');
        }
        for (int k = 0; k < bytes.length; k += 20) {
            x.feed(number(bytes, k), number(bytes, k + 4), number(bytes, k + 8),
                    number(bytes, k + 12), number(bytes, k + 16));
        }
        return text.length();
    }

    private static int number(byte[] bytes, int k) {
        return (bytes[k] & 255) << 24 | (bytes[k + 1] & 255) << 16
                | (bytes[k + 2] & 255) << 8 | bytes[k + 3] & 255;
    }

    static int position(BearHouse x, String text) {
        return x.position(feed(x, text));
    }

    static int say(BearHouse x, String text, int a, int b) {
        return x.say(feed(x, text), a, b);
    }

    static String page(BearHouse x) {
        StringBuilder text = new StringBuilder();
        int size = x.ask(5);
        for (int k = 0; k < size; k++) {
            text.append((char) x.octet(k));
        }
        return text.toString();
    }

    static void finish(String test) {
        System.out.println(test + ": " + (asked - wrong) + " of " + asked + " answers are as due");
        if (wrong != 0 || asked == 0) {
            System.exit(1);
        }
    }
}
