/**
 * Objects that must go on alike: one was asked something that changes nothing, the other one was not.
 * What cannot be asked for (the width of the latest run, the bits that wait) is made to show in later answers.
 */
final class Twins {
    private static final int SHOWN = 24;
    private static final int MOST_READS = 130;

    interface Use {
        void on(LineGolomb x);
    }

    private final int bits;
    private final int near;
    private final int limit;

    /** A limit that is not far above the least one keeps the tale within the calls of the document. */
    Twins(int bits, int near, int limit) {
        this.bits = bits;
        this.near = near;
        this.limit = limit;
    }

    void use(Use use) {
        use.on(new LineGolomb(bits, near, limit));
    }

    void alike(String what, Use one, Use other) {
        Check.same(what, taleAfter(one), taleAfter(other));
    }

    /** A call that changes nothing, after others that make the state in which it is made. */
    void unchanged(String what, Use before, Use call) {
        Use both = x -> {
            before.on(x);
            call.on(x);
        };
        alike(what + " changes nothing", both, before);
    }

    /** The same for a call that throws; it must throw just that. */
    void refused(String what, String exception, Use before, Use call) {
        unchanged(what, before, x -> Check.same(what, thrownBy(call, x), exception));
    }

    private static Object thrownBy(Use call, LineGolomb x) {
        return Check.outcome(() -> {
            call.on(x);
            return "nothing";
        });
    }

    private String taleAfter(Use use) {
        LineGolomb x = new LineGolomb(bits, near, limit);
        use.on(x);
        StringBuilder text = new StringBuilder(Check.seen(x));
        tellWritten(x, text);
        tellWriting(x, text);
        tellWaiting(x, text);
        tellReading(x, text);
        return text.append(" then ").append(Check.seen(x)).toString();
    }

    private static void tellWritten(LineGolomb x, StringBuilder text) {
        int size = x.size();
        text.append(" written ");
        for (int i = 0; i < size; i++) {
            if (i < SHOWN || i >= size - SHOWN) {
                text.append(x.bitAt(i));
            }
        }
    }

    /** The farthest errors need the other form, and that is as long as the latest run's width lets it be. */
    private static void tellWriting(LineGolomb x, StringBuilder text) {
        int farthest = x.told(3) / 2;
        text.append(" ends ").append(Check.outcome(() -> x.interrupt(1, farthest)));
        text.append(' ').append(Check.outcome(() -> x.interrupt(0, farthest)));
    }

    private static void tellWaiting(LineGolomb x, StringBuilder text) {
        int q = x.told(4);
        text.append(" waiting");
        for (int n = 0; n < MOST_READS && x.waiting() > 0; n++) {
            int number = x.read(q);
            text.append(' ').append(number);
            if (number == LineGolomb.WAITS) {
                x.feed(1);
            }
        }
        Check.same("what waits is told", x.waiting(), 0);
    }

    /** How many bits 0 go for an end that is none tells the width of the latest run that was read. */
    private static void tellReading(LineGolomb x, StringBuilder text) {
        int zeros = x.told(2) - x.told(4);
        for (int n = 0; n < zeros; n++) {
            x.feed(0);
        }
        text.append(" no end ").append(x.readInterrupt(0) == LineGolomb.NO_ERROR);
        text.append(" stay ").append(x.waiting());
    }
}
