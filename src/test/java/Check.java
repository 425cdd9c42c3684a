/** What the tests share: counting wrong answers, and bits as texts. */
final class Check {
    private static int done = 0;
    private static int wrong = 0;

    interface Call {
        Object answer();
    }

    private Check() {
    }

    static void same(String what, Object got, Object due) {
        done++;
        if (!due.equals(got)) {
            wrong++;
            System.out.println(what + " answered " + got + ", due is " + due);
        }
    }

    /** The answer of a call, or the simple name of the exception that it throws. */
    static Object outcome(Call call) {
        try {
            return call.answer();
        } catch (RuntimeException e) {
            return e.getClass().getSimpleName();
        }
    }

    static void outOfBounds(String what, Call call) {
        same(what, outcome(call), "IndexOutOfBoundsException");
    }

    static void illegal(String what, Call call) {
        same(what, outcome(call), "IllegalArgumentException");
    }

    static void unsupported(String what, Call call) {
        same(what, outcome(call), "UnsupportedOperationException");
    }

    static String written(LineGolomb x, int from) {
        StringBuilder text = new StringBuilder();
        int end = x.size();
        for (int i = from; i < end; i++) {
            text.append(x.bitAt(i));
        }
        return text.toString();
    }

    static String binary(int number, int width) {
        String text = "0".repeat(32) + Integer.toBinaryString(number);
        return text.substring(text.length() - width);
    }

    /** A number in k, with so many bits 0 at most. */
    static String number(int k, int number, int mostZeros, int q) {
        int zeros = number >> k;
        return zeros < mostZeros ? "0".repeat(zeros) + "1" + binary(number, k)
            : "0".repeat(mostZeros) + "1" + binary(number - 1, q);
    }

    static void feed(LineGolomb x, String bits) {
        for (int i = 0; i < bits.length(); i++) {
            same("feed", x.feed(bits.charAt(i) - '0'), true);
        }
    }

    /** All that can be seen of an object, but for the bits themselves. */
    static String seen(LineGolomb x) {
        StringBuilder text = new StringBuilder();
        text.append(x.size()).append(' ').append(x.waiting()).append(' ').append(x.wasEnded());
        for (int side = 0; side < 2; side++) {
            text.append(" | ").append(x.step(side == 1));
            for (int n = 0; n < 8; n++) {
                text.append(' ').append(x.state(side == 1, n / 4, n % 4));
            }
        }
        return text.toString();
    }

    static String state(LineGolomb x, boolean reading, int kind) {
        return x.state(reading, kind, 0) + " " + x.state(reading, kind, 1) + " "
            + x.state(reading, kind, 2) + " " + x.state(reading, kind, 3);
    }

    /** Fills an object, Q being 8 or more, up to so many bits, with as few calls as the limit lets. */
    static void fillTo(LineGolomb x, int bits) {
        int most = 1 << x.told(4);
        int limit = x.told(2);
        int plain = limit - x.told(4) - 1;
        int left = bits - x.size();
        // A wrong answer must not keep it from ending.
        for (int n = 0; n < 300 && left > 0; n++) {
            left -= left >= limit ? x.code(0, most) : x.code(0, Math.min(left, plain) - 1);
        }
        same("filled", x.size(), bits);
    }

    static void end(String name) {
        System.out.println(name + ": " + done + " answers, " + wrong + " wrong");
        if (wrong != 0 || done == 0) {
            System.exit(1);
        }
    }
}
