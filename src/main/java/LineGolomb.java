/**
 * The codes of a line coder: numbers within a limit of bits, runs of equal samples, and the ends of runs.
 * One side writes bits, the other one reads bits that were fed; each keeps its own states.
 */
public final class LineGolomb {
    public static final int WAITS = -1, NO_CODE = -2, NO_ERROR = 2147483647;

    private static final int LEAST_BITS = 2, MOST_BITS = 16;
    private static final int MOST_NEAR = 255;
    private static final int LIMIT_ABOVE_Q = 18, MOST_LIMIT = 200;
    private static final int MOST_SAMPLES = 65535;
    private static final int MOST_MAPPED = 65536;
    private static final int MOST_WRITTEN = 6000, MOST_WAITING = 1000;
    private static final int FULL_COUNT = 64;
    private static final int MOST_SHIFT = 30;

    private static final int[] WIDTHS = {
        0, 0, 0, 0, 1, 1, 1, 1, 2, 2, 2, 2, 3, 3, 3, 3,
        4, 4, 5, 5, 6, 6, 7, 7, 8, 9, 10, 11, 12, 13, 14, 15
    };

    private final int bits;
    private final int near;
    private final int limit;
    private final int span;
    private final int q;
    private final Side writer;
    private final Side reader;
    private final BitRow written = new BitRow();
    private final BitQueue queue = new BitQueue();
    private boolean lastRunBroken;

    public LineGolomb(int bits, int near, int limit) {
        this.bits = nearest(bits, LEAST_BITS, MOST_BITS);
        int highest = (1 << this.bits) - 1;
        this.near = nearest(near, 0, Math.min(MOST_NEAR, highest / 2));
        this.span = (highest + 2 * this.near) / (2 * this.near + 1) + 1;
        this.q = bitsFor(this.span);
        this.limit = nearest(limit, this.q + LIMIT_ABOVE_Q, MOST_LIMIT);
        int firstSum = Math.max(2, (this.span + 32) / 64);
        this.writer = new Side(firstSum);
        this.reader = new Side(firstSum);
    }

    public int code(int k, int number) throws IllegalArgumentException, UnsupportedOperationException {
        if (k < 0 || k > q) {
            throw new IllegalArgumentException("k is not 0 .. Q");
        }
        if (number < 0 || number > (1 << q)) {
            throw new IllegalArgumentException("the number is not 0 .. 2^Q");
        }
        int most = mostZeros(limit);
        int length = numberLength(k, number, most);
        if (!written.hasRoom(length)) {
            throw new UnsupportedOperationException("too many bits");
        }
        writeNumber(k, number, most);
        return length;
    }

    public int run(int samples, boolean toEnd) throws IllegalArgumentException, UnsupportedOperationException {
        if (samples < 0 || samples > MOST_SAMPLES) {
            throw new IllegalArgumentException("samples are not 0 .. 65535");
        }
        int rest = samples;
        int at = writer.place;
        int ones = 0;
        for (; ones < MOST_SAMPLES && rest >= (1 << widthOf(at)); ones++) {
            rest -= 1 << widthOf(at);
            at = stepAbove(at);
        }
        int width = widthOf(at);
        if (toEnd && rest > 0) {
            ones++;
        }
        int length = toEnd ? ones : ones + 1 + width;
        if (!written.hasRoom(length)) {
            throw new UnsupportedOperationException("too many bits");
        }
        written.putSame(1, ones);
        if (!toEnd) {
            written.putSame(0, 1);
            written.putLow(rest, width);
        }
        writer.endRun(at, !toEnd);
        return length;
    }

    public int interrupt(int kind, int error)
            throws IndexOutOfBoundsException, IllegalArgumentException, UnsupportedOperationException {
        if (!isKind(kind)) {
            throw new IndexOutOfBoundsException("no such kind");
        }
        if (!isError(kind, error)) {
            throw new IllegalArgumentException("no such error");
        }
        Ends ends = writer.endsOf(kind);
        int k = ends.shift();
        int number = ends.numberOf(error, k);
        int most = mostZeros(endLimit(writer));
        int length = numberLength(k, number, most);
        if (!written.hasRoom(length)) {
            throw new UnsupportedOperationException("too many bits");
        }
        writeNumber(k, number, most);
        ends.learn(error, number);
        return length;
    }

    public int bitAt(int i) throws IndexOutOfBoundsException {
        if (i < 0 || i >= written.used) {
            throw new IndexOutOfBoundsException("no such bit");
        }
        return written.get(i);
    }

    public int size() {
        return written.used;
    }

    public boolean feed(int bit) throws IllegalArgumentException {
        if (bit != 0 && bit != 1) {
            throw new IllegalArgumentException("not a bit");
        }
        return queue.add(bit);
    }

    public int pass(int i, int many) throws IndexOutOfBoundsException, IllegalArgumentException {
        if (i < 0 || i > written.used) {
            throw new IndexOutOfBoundsException("no such bit");
        }
        if (many < 0) {
            throw new IllegalArgumentException("fewer bits than none");
        }
        int passed = Math.min(many, Math.min(written.used - i, queue.room()));
        for (int n = 0; n < passed; n++) {
            queue.add(written.get(i + n));
        }
        return passed;
    }

    public int read(int k) throws IllegalArgumentException {
        if (k < 0 || k > q) {
            throw new IllegalArgumentException("k is not 0 .. Q");
        }
        return takeNumber(k, mostZeros(limit));
    }

    public int readRun(int left) throws IllegalArgumentException {
        if (left < 1 || left > MOST_SAMPLES) {
            throw new IllegalArgumentException("left is not 1 .. 65535");
        }
        int rest = left;
        int at = reader.place;
        for (int ones = 0; ones < queue.held; ones++) {
            if (queue.look(ones) == 0) {
                return takeBrokenRun(ones, at, left, rest);
            }
            int whole = 1 << widthOf(at);
            if (whole <= rest) {
                rest -= whole;
                at = stepAbove(at);
            } else {
                rest = 0;
            }
            if (rest == 0) {
                queue.drop(ones + 1);
                endReadRun(at, false);
                return left;
            }
        }
        return WAITS;
    }

    public int readInterrupt(int kind) throws IndexOutOfBoundsException {
        if (!isKind(kind)) {
            throw new IndexOutOfBoundsException("no such kind");
        }
        Ends ends = reader.endsOf(kind);
        int k = ends.shift();
        int number = takeNumber(k, mostZeros(endLimit(reader)));
        if (number < 0) {
            return NO_ERROR;
        }
        int error = ends.errorOf(number, k);
        if (!isError(kind, error)) {
            return NO_ERROR;
        }
        ends.learn(error, number);
        return error;
    }

    public boolean wasEnded() {
        return lastRunBroken;
    }

    public int waiting() {
        return queue.held;
    }

    public int map(int error, boolean special) throws IllegalArgumentException {
        if (error < -MOST_MAPPED || error > MOST_MAPPED) {
            throw new IllegalArgumentException("the error is too far from 0");
        }
        if (error < 0) {
            return -2 * error - (special ? 2 : 1);
        }
        return 2 * error + (special ? 1 : 0);
    }

    public int unmap(int number, boolean special) throws IllegalArgumentException {
        boolean odd = number % 2 != 0;
        boolean negative = odd != special;
        int size = number / 2 + (negative ? 1 : 0);
        if (number < 0 || size > MOST_MAPPED) {
            throw new IllegalArgumentException("no error has this number");
        }
        return negative ? -size : size;
    }

    public int step(boolean reading) {
        return sideOf(reading).place;
    }

    public int state(boolean reading, int kind, int what)
            throws IndexOutOfBoundsException, IllegalArgumentException {
        if (!isKind(kind)) {
            throw new IndexOutOfBoundsException("no such kind");
        }
        Ends ends = sideOf(reading).endsOf(kind);
        switch (what) {
            case 0:
                return ends.sum;
            case 1:
                return ends.count;
            case 2:
                return ends.negatives;
            case 3:
                return ends.shift();
            default:
                throw new IllegalArgumentException("no such part of the state");
        }
    }

    public int told(int what) {
        switch (what) {
            case 0:
                return bits;
            case 1:
                return near;
            case 2:
                return limit;
            case 3:
                return span;
            case 4:
                return q;
            default:
                return NO_CODE;
        }
    }

    public void clear() {
        written.used = 0;
        queue.drop(queue.held);
        writer.restart();
        reader.restart();
        lastRunBroken = false;
    }

    private static int nearest(int value, int least, int most) {
        return Math.max(least, Math.min(most, value));
    }

    private static int bitsFor(int numbers) {
        int width = 0;
        while (width < MOST_SHIFT && (1 << width) < numbers) {
            width++;
        }
        return width;
    }

    private static int widthOf(int place) {
        return place < 0 || place >= WIDTHS.length ? 0 : WIDTHS[place];
    }

    private static int stepAbove(int place) {
        return Math.min(place + 1, WIDTHS.length - 1);
    }

    private static int stepBelow(int place) {
        return Math.max(place - 1, 0);
    }

    private static boolean isKind(int kind) {
        return kind == 0 || kind == 1;
    }

    private boolean isError(int kind, int error) {
        int farthest = span / 2;
        return error >= -farthest && error <= farthest && (error != 0 || kind == 0);
    }

    private Side sideOf(boolean reading) {
        return reading ? reader : writer;
    }

    private int endLimit(Side side) {
        return limit - 1 - side.runWidth;
    }

    private int mostZeros(int within) {
        return within - q - 1;
    }

    private int numberLength(int k, int number, int most) {
        int zeros = number >> k;
        return zeros < most ? zeros + 1 + k : most + 1 + q;
    }

    private void writeNumber(int k, int number, int most) {
        int zeros = number >> k;
        written.putSame(0, Math.min(zeros, most));
        written.putSame(1, 1);
        if (zeros < most) {
            written.putLow(number, k);
        } else {
            written.putLow(number - 1, q);
        }
    }

    /** Takes a number's bits out of the queue; WAITS takes none. */
    private int takeNumber(int k, int most) {
        int zeros = queue.zerosAhead(most + 1);
        if (zeros > most) {
            queue.drop(most + 1);
            return NO_CODE;
        }
        int tail = zeros < most ? k : q;
        int length = zeros + 1 + tail;
        if (length > queue.held) {
            return WAITS;
        }
        int low = queue.lookNumber(zeros + 1, tail);
        queue.drop(length);
        return zeros < most ? (zeros << k) + low : low + 1;
    }

    /** Takes a run that does not go to the end, behind so many whole steps; WAITS takes none. */
    private int takeBrokenRun(int ones, int at, int left, int rest) {
        int width = widthOf(at);
        int length = ones + 1 + width;
        if (length > queue.held) {
            return WAITS;
        }
        int more = queue.lookNumber(ones + 1, width);
        queue.drop(length);
        if (more >= rest) {
            return NO_CODE;
        }
        endReadRun(at, true);
        return left - rest + more;
    }

    private void endReadRun(int at, boolean broken) {
        reader.endRun(at, broken);
        lastRunBroken = broken;
    }

    /** The states of one side. */
    private static final class Side {
        private final Ends plain;
        private final Ends nonzero;
        private int place;
        private int runWidth;

        Side(int firstSum) {
            plain = new Ends(0, firstSum);
            nonzero = new Ends(1, firstSum);
        }

        Ends endsOf(int kind) {
            return kind == 0 ? plain : nonzero;
        }

        void endRun(int at, boolean broken) {
            // The limit of the end that follows goes by the width before the step falls.
            runWidth = widthOf(at);
            place = broken ? stepBelow(at) : at;
        }

        void restart() {
            plain.restart();
            nonzero.restart();
            place = 0;
            runWidth = 0;
        }
    }

    /** What one side has seen of the ends of one kind. */
    private static final class Ends {
        private final int kind;
        private final int firstSum;
        private int sum;
        private int count;
        private int negatives;

        Ends(int kind, int firstSum) {
            this.kind = kind;
            this.firstSum = firstSum;
            restart();
        }

        void restart() {
            sum = firstSum;
            count = 1;
            negatives = 0;
        }

        /** The k in which the next number is written. */
        int shift() {
            int target = kind == 0 ? sum : sum + count / 2;
            int k = 0;
            while (k < MOST_SHIFT && ((long) count << k) < target) {
                k++;
            }
            return k;
        }

        /** Which sign the flag stands for: the other one has none. */
        private boolean flagsPositive(int k) {
            return k == 0 && 2 * negatives < count;
        }

        int numberOf(int error, int k) {
            boolean flagged = error != 0 && (error > 0) == flagsPositive(k);
            return 2 * Math.abs(error) - kind - (flagged ? 1 : 0);
        }

        int errorOf(int number, int k) {
            int doubled = number + kind;
            boolean flagged = doubled % 2 != 0;
            int size = (doubled + 1) / 2;
            return flagged == flagsPositive(k) ? size : -size;
        }

        void learn(int error, int number) {
            if (error < 0) {
                negatives++;
            }
            sum += (number + 1 - kind) / 2;
            if (count == FULL_COUNT) {
                sum /= 2;
                count /= 2;
                negatives /= 2;
            }
            count++;
        }
    }

    /** The bits that were written. */
    private static final class BitRow {
        private final byte[] row = new byte[MOST_WRITTEN];
        private int used;

        boolean hasRoom(int many) {
            return many <= row.length - used;
        }

        int get(int i) {
            return i < 0 || i >= used ? 0 : row[i];
        }

        void putSame(int bit, int many) {
            for (int n = 0; n < many && used < row.length; n++) {
                row[used] = (byte) bit;
                used++;
            }
        }

        void putLow(int value, int width) {
            for (int n = width - 1; n >= 0; n--) {
                putSame((value >> n) & 1, 1);
            }
        }
    }

    /** The bits that wait, in a ring: each goes in and out once, and none is moved. */
    private static final class BitQueue {
        private final byte[] ring = new byte[MOST_WAITING];
        private int first;
        private int held;

        int room() {
            return ring.length - held;
        }

        private int placeOf(int i) {
            int at = first + i;
            return at < ring.length ? at : at - ring.length;
        }

        boolean add(int bit) {
            if (held >= ring.length) {
                return false;
            }
            ring[placeOf(held)] = (byte) bit;
            held++;
            return true;
        }

        int look(int i) {
            return i < 0 || i >= held ? 0 : ring[placeOf(i)];
        }

        int lookNumber(int from, int width) {
            int value = 0;
            for (int n = 0; n < width; n++) {
                value = 2 * value + look(from + n);
            }
            return value;
        }

        /** How many bits 0 come first, counted up to a bound. */
        int zerosAhead(int bound) {
            int zeros = 0;
            while (zeros < bound && zeros < held && look(zeros) == 0) {
                zeros++;
            }
            return zeros;
        }

        void drop(int many) {
            int gone = Math.min(many, held);
            first = placeOf(gone);
            held -= gone;
        }
    }
}
