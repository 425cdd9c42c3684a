/**
 * The document once more, with texts for bits and formulas for tables: slow, and written apart from the program,
 * so that a slip in one shows against the other. Side 0 writes, side 1 reads.
 */
final class Model {
    private final int bits;
    private final int near;
    private final int limit;
    private final int span;
    private final int q;
    private String out;
    private String in;
    private final int[] step = new int[2];
    private final int[] runWidth = new int[2];
    private final int[][] states = new int[4][];
    private boolean ended;
    private int value;
    private int used;

    Model(int bits, int near, int limit) {
        this.bits = Math.min(16, Math.max(2, bits));
        int top = (int) Math.pow(2, this.bits) - 1;
        this.near = Math.min(Math.min(255, top / 2), Math.max(0, near));
        this.span = (top + 2 * this.near) / (2 * this.near + 1) + 1;
        this.q = Integer.toBinaryString(this.span - 1).length();
        this.limit = Math.min(200, Math.max(this.q + 18, limit));
        forgetAll();
    }

    private void forgetAll() {
        out = "";
        in = "";
        ended = false;
        for (int n = 0; n < 4; n++) {
            states[n] = new int[] {Math.max(2, (span + 32) / 64), 1, 0};
            step[n / 2] = 0;
            runWidth[n / 2] = 0;
        }
    }

    private static int width(int step) {
        return step < 16 ? step / 4 : step < 24 ? step / 2 - 4 : step - 16;
    }

    private static String binary(int number, int width) {
        String text = "0".repeat(32) + Integer.toBinaryString(number);
        return text.substring(text.length() - width);
    }

    private static int number(String binary) {
        return binary.isEmpty() ? 0 : Integer.parseInt(binary, 2);
    }

    private String numberBits(int k, int number, int within) {
        int zeros = number / (1 << k);
        if (zeros >= within - q - 1) {
            return "0".repeat(within - q - 1) + "1" + binary(number - 1, q);
        }
        return "0".repeat(zeros) + "1" + binary(number % (1 << k), k);
    }

    private int put(String more) {
        if (out.length() + more.length() > 6000) {
            throw new UnsupportedOperationException();
        }
        out += more;
        return more.length();
    }

    int code(int k, int number) {
        require(k >= 0 && k <= q && number >= 0 && number <= 1 << q);
        return put(numberBits(k, number, limit));
    }

    int run(int samples, boolean toEnd) {
        require(samples >= 0 && samples <= 65535);
        int s = step[0];
        int n = samples;
        String text = "";
        while (n >= 1 << width(s)) {
            n -= 1 << width(s);
            text += "1";
            s = s < 31 ? s + 1 : s;
        }
        int w = width(s);
        if (toEnd) {
            text += n > 0 ? "1" : "";
        } else {
            text += "0" + binary(n, w);
            s = s > 0 ? s - 1 : s;
        }
        int length = put(text);
        step[0] = s;
        runWidth[0] = w;
        return length;
    }

    private static int kOf(int[] state, int kind) {
        int t = state[0] + (kind == 1 ? state[1] / 2 : 0);
        int k = 0;
        while (state[1] * (1L << k) < t) {
            k++;
        }
        return k;
    }

    private static int flagOf(int error, int k, int[] state) {
        boolean below = 2 * state[2] < state[1];
        if (error > 0 && k == 0 && below) {
            return 1;
        }
        return error < 0 && (k != 0 || !below) ? 1 : 0;
    }

    private static void see(int[] state, int kind, int error, int m) {
        state[2] += error < 0 ? 1 : 0;
        state[0] += (m + 1 - kind) / 2;
        if (state[1] == 64) {
            for (int n = 0; n < 3; n++) {
                state[n] /= 2;
            }
        }
        state[1]++;
    }

    int interrupt(int kind, int error) {
        requireKind(kind);
        require(Math.abs((long) error) <= span / 2 && (kind == 0 || error != 0));
        int[] state = states[kind];
        int k = kOf(state, kind);
        int m = 2 * Math.abs(error) - kind - flagOf(error, k, state);
        int length = put(numberBits(k, m, limit - 1 - runWidth[0]));
        see(state, kind, error, m);
        return length;
    }

    int bitAt(int i) {
        if (i < 0 || i >= out.length()) {
            throw new IndexOutOfBoundsException();
        }
        return out.charAt(i) - '0';
    }

    int size() {
        return out.length();
    }

    boolean feed(int bit) {
        require(bit == 0 || bit == 1);
        if (in.length() == 1000) {
            return false;
        }
        in += bit;
        return true;
    }

    int pass(int i, int many) {
        if (i < 0 || i > out.length()) {
            throw new IndexOutOfBoundsException();
        }
        require(many >= 0);
        String more = out.substring(i);
        more = more.substring(0, Math.min(more.length(), many));
        more = more.substring(0, Math.min(more.length(), 1000 - in.length()));
        in += more;
        return more.length();
    }

    /** Leaves the number, or why there is none, in value, and in used how many bits go for it. */
    private void look(int k, int within) {
        int most = within - q - 1;
        int one = in.indexOf('1');
        int zeros = one < 0 ? in.length() : one;
        value = LineGolomb.WAITS;
        used = 0;
        if (zeros > most) {
            value = LineGolomb.NO_CODE;
            used = most + 1;
        } else if (one == most && in.length() >= one + 1 + q) {
            used = one + 1 + q;
            value = number(in.substring(one + 1, used)) + 1;
        } else if (one >= 0 && one < most && in.length() >= one + 1 + k) {
            used = one + 1 + k;
            value = one * (1 << k) + number(in.substring(one + 1, used));
        }
    }

    int read(int k) {
        require(k >= 0 && k <= q);
        look(k, limit);
        in = in.substring(used);
        return value;
    }

    int readRun(int left) {
        require(left >= 1 && left <= 65535);
        int s = step[1];
        int rest = left;
        String text = in;
        while (text.startsWith("1")) {
            text = text.substring(1);
            boolean whole = 1 << width(s) <= rest;
            rest -= whole ? 1 << width(s) : rest;
            s = whole && s < 31 ? s + 1 : s;
            if (rest == 0) {
                return runRead(s, s, false, text, left);
            }
        }
        int w = width(s);
        if (text.length() < 1 + w) {
            return LineGolomb.WAITS;
        }
        int n = left - rest + number(text.substring(1, 1 + w));
        text = text.substring(1 + w);
        if (n >= left) {
            in = text;
            return LineGolomb.NO_CODE;
        }
        return runRead(s, s > 0 ? s - 1 : 0, true, text, n);
    }

    private int runRead(int at, int after, boolean wasEnded, String behind, int samples) {
        step[1] = after;
        runWidth[1] = width(at);
        ended = wasEnded;
        in = behind;
        return samples;
    }

    /** Finds the error by trying all that may be: the document tells only how one is written. */
    int readInterrupt(int kind) {
        requireKind(kind);
        int[] state = states[2 + kind];
        int k = kOf(state, kind);
        look(k, limit - 1 - runWidth[1]);
        in = in.substring(used);
        for (int size = Math.max(0, value / 2 - 1); value >= 0 && size <= Math.min(span / 2, value / 2 + 2); size++) {
            for (int error = -size; error <= size; error += Math.max(1, 2 * size)) {
                boolean may = kind == 0 || error != 0;
                if (may && 2 * size - kind - flagOf(error, k, state) == value) {
                    see(state, kind, error, value);
                    return error;
                }
            }
        }
        return LineGolomb.NO_ERROR;
    }

    boolean wasEnded() {
        return ended;
    }

    int waiting() {
        return in.length();
    }

    int map(int error, boolean special) {
        require(Math.abs((long) error) <= 65536);
        int twice = 2 * Math.abs(error);
        return special ? (error < 0 ? twice - 2 : twice + 1) : (error < 0 ? twice - 1 : twice);
    }

    int unmap(int number, boolean special) {
        int near = number / 2;
        for (int size = Math.max(0, near - 2); size <= Math.min(65536, near + 2L); size++) {
            if (map(size, special) == number) {
                return size;
            }
            if (map(-size, special) == number) {
                return -size;
            }
        }
        throw new IllegalArgumentException();
    }

    int step(boolean reading) {
        return step[reading ? 1 : 0];
    }

    int state(boolean reading, int kind, int what) {
        requireKind(kind);
        require(what >= 0 && what <= 3);
        int[] state = states[(reading ? 2 : 0) + kind];
        return what == 3 ? kOf(state, kind) : state[what];
    }

    int told(int what) {
        int[] all = {bits, near, limit, span, q};
        return what >= 0 && what < 5 ? all[what] : LineGolomb.NO_CODE;
    }

    Object clear() {
        forgetAll();
        return "";
    }

    private static void require(boolean right) {
        if (!right) {
            throw new IllegalArgumentException();
        }
    }

    private static void requireKind(int kind) {
        if (kind != 0 && kind != 1) {
            throw new IndexOutOfBoundsException();
        }
    }
}
