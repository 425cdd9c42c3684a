/** An object and its model: both are asked the same, and must answer the same. */
final class Pair {
    private static final int SHOWN = 24;
    private static final int MOST_READS = 150;
    private static final int MOST_CALLS = 512;

    private final LineGolomb x;
    private final Model model;
    private final String name;
    private final int limit;
    private final int q;
    private final int farthest;
    private int calls = 0;

    Pair(String name, int bits, int near, int limit) {
        this.name = name + ": ";
        x = new LineGolomb(bits, near, limit);
        model = new Model(bits, near, limit);
        this.limit = model.told(2);
        q = model.told(4);
        farthest = model.told(3) / 2;
    }

    /** The answer that is due. */
    Object ask(String call) {
        calls++;
        Object due = Script.answer(model, call);
        Check.same(name + call, Script.answer(x, call), due);
        return due;
    }

    void askAll(String calls) {
        for (String call : calls.split("; ")) {
            if (!call.isEmpty()) {
                ask(call);
            }
        }
    }

    void feed(String bits) {
        for (int i = 0; i < bits.length(); i++) {
            ask("feed(" + bits.charAt(i) + ")");
        }
    }

    /** Writes until so many bits are there, with as few calls as the limit lets; 2^Q must need the other form. */
    void fillTo(int bits) {
        int plain = limit - q - 1;
        int left = bits - model.size();
        for (int n = 0; n < 300 && left > 0; n++) {
            ask("code(0, " + (left >= limit ? 1 << q : Math.min(left, plain) - 1) + ")");
            left = bits - model.size();
        }
        Check.same(name + "filled", model.size(), bits);
    }

    /** Passes until so many bits wait. */
    void passUntil(int waiting) {
        for (int n = 0; n < 100 && model.size() > 0 && model.waiting() < waiting; n++) {
            ask("pass(0, " + (waiting - model.waiting()) + ")");
        }
        Check.same(name + "waiting", model.waiting(), waiting);
    }

    /** Asks for all that can be asked for, and makes the rest show in later answers. */
    void tellAll() {
        look();
        lookAtBits();
        ask("interrupt(1, " + farthest + ")");
        ask("interrupt(0, " + farthest + ")");
        readAll();
        feed("0".repeat(limit - q));
        ask("readInterrupt(0)");
        look();
        ask("clear()");
        look();
        ask("interrupt(0, " + farthest + ")");
        feed("0".repeat(limit - q));
        ask("readInterrupt(1)");
        ask("waiting()");
        Check.same(name + "within the calls that are promised", calls <= MOST_CALLS, true);
    }

    private void look() {
        askAll("size(); waiting(); wasEnded(); step(false); step(true)");
        for (int n = 0; n < 16; n++) {
            ask("state(" + (n / 8 == 1) + ", " + n / 4 % 2 + ", " + n % 4 + ")");
        }
        for (int what = 0; what < 5; what++) {
            ask("told(" + what + ")");
        }
    }

    /** The first ones and the last ones: all of them would take too many calls. */
    private void lookAtBits() {
        int size = model.size();
        for (int i = 0; i < size; i++) {
            if (i < SHOWN || i >= size - SHOWN) {
                ask("bitAt(" + i + ")");
            }
        }
    }

    private void readAll() {
        for (int n = 0; n < MOST_READS && model.waiting() > 0; n++) {
            if (ask("read(" + q + ")").equals(LineGolomb.WAITS)) {
                ask("feed(1)");
            }
        }
        Check.same(name + "all are read", model.waiting(), 0);
    }
}
