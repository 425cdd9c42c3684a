/** Terms and promises 4, 11 and 17: the bounds of ends, written and read, and of the states that go with them. */
public final class BoundsOfEndsTest {
    private static final int LEAST = Integer.MIN_VALUE, MOST = Integer.MAX_VALUE;
    private static final String OUT = "IndexOutOfBoundsException", ILLEGAL = "IllegalArgumentException";
    private static final String UNSUPPORTED = "UnsupportedOperationException";
    private static final int[] SMALL = {2, 0, 20}, MIDDLE = {8, 0, 26};
    private static final int[] WIDTHS = {
        0, 0, 0, 0, 1, 1, 1, 1, 2, 2, 2, 2, 3, 3, 3, 3, 4, 4, 5, 5, 6, 6, 7, 7, 8, 9, 10, 11, 12, 13, 14, 15};
    // Bits, near, the span that they make: even and odd ones.
    private static final int[][] SPANS = {
        {2, 1, 2}, {3, 2, 3}, {2, 0, 4}, {5, 4, 5}, {6, 5, 7}, {3, 0, 8}, {7, 8, 9}, {15, 128, 129}, {16, 255, 130},
        {16, 129, 255}, {8, 0, 256}, {16, 0, 65536}};
    private static final Twins TWINS = new Twins(8, 0, 26);

    public static void main(String[] args) {
        zeroIsOfKind0Alone();
        errorsGoToHalfOfTheSpan();
        farErrorsAreRefusedBeforeAnythingChanges();
        kIsTheLeast();
        kOfKind1HasHalfOfTheCountMore();
        flagsOfKind0();
        flagsOfKind1();
        sumGrowsDownward();
        countOf64Halves();
        countOf64HalvesAgain();
        limitWithoutARun();
        limitGoesByTheWidthOfEachStep();
        limitGoesByTheLatestRunOfThatSide();
        limitStaysUntilTheNextRun();
        rowHasRoomForJustThat();
        widthStaysWithoutRoom();
        kindHasTwoBounds();
        endsThatAreNotAllThere();
        tooManyZeros();
        tooManyZerosByTheWidthOfEachStep();
        farErrorsAreNone();
        stateHasItsBounds();
        Check.end("BoundsOfEndsTest");
    }

    private static LineGolomb make(int[] with) {
        return new LineGolomb(with[0], with[1], with[2]);
    }

    private static void writeAll(LineGolomb x, int kind, int[] errors) {
        for (int error : errors) {
            x.interrupt(kind, error);
        }
    }

    /** Ends that were seen, the state that they lead to, then one more: its bits, and the state after it; then all is read. */
    private static void ends(int[] with, int kind, int[] seen, String state, int error, String bits, String after) {
        LineGolomb x = make(with);
        String what = "kind " + kind + " in " + state + " error " + error;
        writeAll(x, kind, seen);
        Check.same(what + " before", Check.state(x, false, kind), state);
        int from = x.size();
        Check.same(what, x.interrupt(kind, error), bits.length());
        Check.same(what + " bits", Check.written(x, from), bits);
        Check.same(what + " after", Check.state(x, false, kind), after);
        Check.same(what + " pass", x.pass(0, 1000), from + bits.length());
        for (int before : seen) {
            Check.same(what + " read before", x.readInterrupt(kind), before);
        }
        Check.same(what + " read", x.readInterrupt(kind), error);
        Check.same(what + " after reading", Check.state(x, true, kind), after);
        Check.same(what + " waiting", x.waiting(), 0);
        for (int side = 0; side < 2; side++) {
            Check.same(what + " other kind", x.state(side == 0, 1 - kind, 1), 1);
        }
    }

    /** "errors e, not 0 for kind 1" */
    private static void zeroIsOfKind0Alone() {
        for (int[] with : SPANS) {
            LineGolomb x = new LineGolomb(with[0], with[1], 200);
            Check.illegal("0 of kind 1", () -> x.interrupt(1, 0));
            Check.same("nothing is written", x.size(), 0);
            Check.same("0 of kind 0", x.interrupt(0, 0), 1 + x.state(false, 1, 3));
            x.interrupt(1, 1);
            x.interrupt(1, -1);
            x.pass(0, 1000);
            Check.same("0", x.readInterrupt(0), 0);
            Check.same("1", x.readInterrupt(1), 1);
            Check.same("-1", x.readInterrupt(1), -1);
        }
        TWINS.refused("0 of kind 1", ILLEGAL, x -> x.run(9, false), x -> x.interrupt(1, 0));
    }

    /** "and not farther from 0 than half (downward) of the span" */
    private static void errorsGoToHalfOfTheSpan() {
        for (int[] with : SPANS) {
            int half = with[2] / 2;
            for (int kind = 0; kind < 2; kind++) {
                int of = kind;
                LineGolomb x = new LineGolomb(with[0], with[1], 0);
                Check.same("span", x.told(3), with[2]);
                for (int error : new int[] {half + 1, -half - 1, 2 * half, -2 * half, LEAST, MOST, -MOST}) {
                    if (Math.abs((long) error) > half) {
                        Check.illegal("span " + with[2] + " error " + error, () -> x.interrupt(of, error));
                    }
                }
                Check.same("nothing is written", x.size(), 0);
                x.interrupt(kind, half);
                x.interrupt(kind, -half);
                x.pass(0, 1000);
                Check.same("farthest above", x.readInterrupt(kind), half);
                Check.same("farthest below", x.readInterrupt(kind), -half);
                Check.same("waiting", x.waiting(), 0);
            }
        }
    }

    /** "A call that throws changes nothing": interrupt() */
    private static void farErrorsAreRefusedBeforeAnythingChanges() {
        for (int kind = 0; kind < 2; kind++) {
            int of = kind;
            for (int error : new int[] {129, -129, LEAST, MOST}) {
                TWINS.refused("interrupt " + kind + " " + error, ILLEGAL, x -> {
                    x.run(9, false);
                    x.interrupt(0, -3);
                    x.interrupt(1, 2);
                }, x -> x.interrupt(of, error));
            }
        }
    }

    /** "k is the least of which the count times 2^k is not below T": T is the sum for kind 0 */
    private static void kIsTheLeast() {
        // Just T, at first; and where 2^k less 1 would not do.
        ends(MIDDLE, 0, new int[] {}, "4 1 0 2", 0, "100", "4 2 0 1");
        Check.same("sum 3", Check.state(new LineGolomb(15, 103, 0), false, 0), "3 1 0 2");
        Check.same("sum 13", Check.state(new LineGolomb(12, 2, 0), true, 0), "13 1 0 4");
        Check.same("sum 1024", Check.state(new LineGolomb(16, 0, 0), false, 0), "1024 1 0 10");
        // Counts of 2 and 4, times 2 and 1, are just 4; 5 is above that.
        ends(MIDDLE, 0, new int[] {0}, "4 2 0 1", 0, "10", "4 3 0 1");
        ends(MIDDLE, 0, new int[] {1}, "5 2 0 2", 0, "100", "5 3 0 1");
        ends(MIDDLE, 0, new int[] {0, 0, 0}, "4 4 0 0", 0, "1", "4 5 0 0");
        ends(MIDDLE, 0, new int[] {0, 0, 1}, "5 4 0 1", 0, "10", "5 5 0 0");
        ends(MIDDLE, 0, new int[] {0, 0, 1, 0}, "5 5 0 0", 2, "0001", "7 6 0 1");
    }

    /** "and (kind 1) half of the count, downward, more" */
    private static void kOfKind1HasHalfOfTheCountMore() {
        ends(MIDDLE, 1, new int[] {}, "4 1 0 2", 1, "101", "4 2 0 2");
        // 4 and 1 is above 2 times 2, but not above 3 times 2.
        ends(MIDDLE, 1, new int[] {1}, "4 2 0 2", 1, "101", "4 3 0 1");
        ends(MIDDLE, 1, new int[] {1, 1, 1}, "4 4 0 1", 1, "11", "4 5 0 1");
        // 4 and 2 is above 5, 4 and 3 above 6, and 4 and 3, downward, is just 7.
        ends(MIDDLE, 1, new int[] {1, 1, 1, 1}, "4 5 0 1", 1, "11", "4 6 0 1");
        ends(MIDDLE, 1, new int[] {1, 1, 1, 1, 1}, "4 6 0 1", 1, "11", "4 7 0 0");
        ends(MIDDLE, 1, new int[] {1, 1, 1, 1, 1, 1}, "4 7 0 0", 1, "1", "4 8 0 0");
        ends(SMALL, 1, new int[] {1}, "2 2 0 1", 1, "11", "2 3 0 0");
    }

    /** "FLAG is 1, if ..": each side of each bound, for kind 0 */
    private static void flagsOfKind0() {
        // k is not 0, the negatives are few.
        int[] none = {};
        ends(SMALL, 0, none, "2 1 0 1", 1, "010", "3 2 0 1");
        ends(SMALL, 0, none, "2 1 0 1", -1, "11", "3 2 1 1");
        ends(SMALL, 0, none, "2 1 0 1", 0, "10", "2 2 0 0");
        ends(SMALL, 0, none, "2 1 0 1", 2, "0010", "4 2 0 1");
        ends(SMALL, 0, none, "2 1 0 1", -2, "011", "4 2 1 1");
        // k is not 0, twice the negatives are just the count, and more than that.
        int[] one = {-1};
        ends(SMALL, 0, one, "3 2 1 1", 1, "010", "4 3 1 1");
        ends(SMALL, 0, one, "3 2 1 1", -1, "11", "4 3 2 1");
        ends(SMALL, 0, one, "3 2 1 1", 0, "10", "3 3 1 0");
        int[] two = {-2, -2};
        ends(SMALL, 0, two, "6 3 2 1", 1, "010", "7 4 2 1");
        ends(SMALL, 0, two, "6 3 2 1", -1, "11", "7 4 3 1");
        // k is 0, the negatives are few, and twice them one less than the count.
        int[] zero = {0};
        ends(SMALL, 0, zero, "2 2 0 0", 1, "01", "3 3 0 0");
        ends(SMALL, 0, zero, "2 2 0 0", -1, "001", "3 3 1 0");
        ends(SMALL, 0, zero, "2 2 0 0", 0, "1", "2 3 0 0");
        int[] less = {-1, 0};
        ends(SMALL, 0, less, "3 3 1 0", 1, "01", "4 4 1 0");
        ends(SMALL, 0, less, "3 3 1 0", -1, "001", "4 4 2 0");
        ends(SMALL, 0, less, "3 3 1 0", 2, "0001", "5 4 1 1");
        ends(SMALL, 0, less, "3 3 1 0", -2, "00001", "5 4 2 1");
        // k is 0, twice the negatives are just the count, and one more.
        int[] just = {-1, 0, 0, -1, -1};
        ends(SMALL, 0, just, "5 6 3 0", 1, "001", "6 7 3 0");
        ends(SMALL, 0, just, "5 6 3 0", -1, "01", "6 7 4 0");
        ends(SMALL, 0, just, "5 6 3 0", 0, "1", "5 7 3 0");
        int[] more = {-1, 0, 0, -1, -1, -1};
        ends(SMALL, 0, more, "6 7 4 0", 1, "001", "7 8 4 0");
        ends(SMALL, 0, more, "6 7 4 0", -1, "01", "7 8 5 0");
        ends(SMALL, 0, more, "6 7 4 0", 2, "00001", "8 8 4 0");
        ends(SMALL, 0, more, "6 7 4 0", -2, "0001", "8 8 5 0");
    }

    /** The same for kind 1: "M = twice e without its sign, less the kind, less the flag" */
    private static void flagsOfKind1() {
        int[] none = {};
        ends(SMALL, 1, none, "2 1 0 1", 1, "11", "2 2 0 1");
        ends(SMALL, 1, none, "2 1 0 1", -1, "10", "2 2 1 1");
        ends(SMALL, 1, none, "2 1 0 1", 2, "011", "3 2 0 1");
        ends(SMALL, 1, none, "2 1 0 1", -2, "010", "3 2 1 1");
        int[] one = {-1};
        ends(SMALL, 1, one, "2 2 1 1", 1, "11", "2 3 1 0");
        ends(SMALL, 1, one, "2 2 1 1", -1, "10", "2 3 2 0");
        int[] few = {1, 1};
        ends(SMALL, 1, few, "2 3 0 0", 1, "1", "2 4 0 0");
        ends(SMALL, 1, few, "2 3 0 0", -1, "01", "2 4 1 0");
        int[] less = {1, -1};
        ends(SMALL, 1, less, "2 3 1 0", 1, "1", "2 4 1 0");
        ends(SMALL, 1, less, "2 3 1 0", -1, "01", "2 4 2 0");
        ends(SMALL, 1, less, "2 3 1 0", 2, "001", "3 4 1 1");
        ends(SMALL, 1, less, "2 3 1 0", -2, "0001", "3 4 2 1");
        int[] just = {1, -1, -1};
        ends(SMALL, 1, just, "2 4 2 0", 1, "01", "2 5 2 0");
        ends(SMALL, 1, just, "2 4 2 0", -1, "1", "2 5 3 0");
        ends(SMALL, 1, just, "2 4 2 0", 2, "0001", "3 5 2 0");
        ends(SMALL, 1, just, "2 4 2 0", -2, "001", "3 5 3 0");
        int[] more = {-1, -1};
        ends(SMALL, 1, more, "2 3 2 0", 1, "01", "2 4 2 0");
        ends(SMALL, 1, more, "2 3 2 0", -1, "1", "2 4 3 0");
    }

    /** "the sum is more by (M + 1 - kind) / 2, downward" */
    private static void sumGrowsDownward() {
        // M is 10, 9; then 9, 8.
        ends(MIDDLE, 0, new int[] {}, "4 1 0 2", 5, "00110", "9 2 0 3");
        ends(MIDDLE, 0, new int[] {}, "4 1 0 2", -5, "00101", "9 2 1 3");
        ends(MIDDLE, 1, new int[] {}, "4 1 0 2", 5, "00101", "8 2 0 3");
        ends(MIDDLE, 1, new int[] {}, "4 1 0 2", -5, "00100", "8 2 1 3");
        // The farthest of the widest samples, M being 65536, 65535, 65535, 65534.
        int[] wide = {16, 0, 34};
        String other = "0".repeat(16) + "1";
        ends(wide, 0, new int[] {}, "1024 1 0 10", 32768, other + "1".repeat(16), "33792 2 0 15");
        ends(wide, 0, new int[] {}, "1024 1 0 10", -32768, other + "1".repeat(15) + "0", "33792 2 1 15");
        ends(wide, 1, new int[] {}, "1024 1 0 10", 32768, other + "1".repeat(15) + "0", "33791 2 0 15");
        ends(wide, 1, new int[] {}, "1024 1 0 10", -32768, other + "1".repeat(14) + "01", "33791 2 1 15");
    }

    private static int[] times(int many, int error, int... first) {
        int[] all = new int[first.length + many];
        for (int n = 0; n < all.length; n++) {
            all[n] = n < first.length ? first[n] : error;
        }
        return all;
    }

    /** "if the count is 64, all three are halved, downward; the count is one more" */
    private static void countOf64Halves() {
        ends(MIDDLE, 0, times(60, 0, -1, -1), "6 63 2 0", 0, "1", "6 64 2 0");
        ends(MIDDLE, 0, times(61, 0, -1, -1), "6 64 2 0", 0, "1", "3 33 1 0");
        // The end that comes is counted before all are halved: 8 and 3 are.
        ends(MIDDLE, 0, times(61, 0, -1, -1), "6 64 2 0", -2, "00001", "4 33 1 0");
        ends(MIDDLE, 0, times(61, 0, -1, -1), "6 64 2 0", 1, "01", "3 33 1 0");
        ends(MIDDLE, 0, times(62, 0, -1), "5 64 1 0", 0, "1", "2 33 0 0");
        ends(MIDDLE, 1, times(60, 1, -1, -1), "4 63 2 0", 1, "1", "4 64 2 0");
        ends(MIDDLE, 1, times(61, 1, -1, -1), "4 64 2 0", 1, "1", "2 33 1 0");
        ends(MIDDLE, 1, times(61, 1, -1, -1), "4 64 2 0", -2, "0001", "2 33 1 0");
        ends(MIDDLE, 1, times(61, 1, -1, -1), "4 64 2 0", -3, "000001", "3 33 1 0");
    }

    /** The count goes from 64 to 33 each time, and never above 64. */
    private static void countOf64HalvesAgain() {
        for (int kind = 0; kind < 2; kind++) {
            LineGolomb x = new LineGolomb(8, 0, 26);
            int count = 1;
            for (int n = 0; n < 130; n++) {
                Check.same("count", x.state(false, kind, 1), count);
                Check.same("bits", x.interrupt(kind, kind) > 0, true);
                count = count == 64 ? 33 : count + 1;
            }
            // 64 ends lead to the first 33, and 32 each to the next ones.
            Check.same("halved three times", count, 33 + 130 - 64 - 32 - 32);
            x.pass(0, 1000);
            for (int n = 0; n < 130; n++) {
                Check.same("read", x.readInterrupt(kind), kind);
            }
            Check.same("both sides", Check.state(x, true, kind), Check.state(x, false, kind));
        }
    }

    /** With k = 2 the error -e is M = 2 e - 1, the last one with that many bits 0, for an even e; e is the next one. */
    private static void limitIs(LineGolomb x, String what, int zeros, boolean plain) {
        int from = x.size();
        int error = 2 * zeros;
        String due = plain ? "0".repeat(zeros - 1) + "111" : "0".repeat(zeros) + "1" + Check.binary(4 * zeros - 1, 8);
        Check.same(what, x.interrupt(0, plain ? -error : error), due.length());
        Check.same(what + " bits", Check.written(x, from), due);
    }

    /** "the limit for that is LIMIT less 1, less the width .. (0 without a run)" */
    private static void limitWithoutARun() {
        for (int limit : new int[] {26, 27, 40}) {
            int zeros = limit - 1 - 8 - 1;
            limitIs(new LineGolomb(8, 0, limit), "last plain one", zeros, true);
            limitIs(new LineGolomb(8, 0, limit), "first other one", zeros, false);
            LineGolomb x = new LineGolomb(8, 0, limit);
            x.code(0, 256);
            Check.same("as long as the limit lets", x.interrupt(0, 128), limit - 1);
            Check.same("of either kind", x.interrupt(1, 128), limit - 1);
        }
    }

    private static int samplesTo(int step) {
        int samples = 0;
        for (int n = 0; n < step; n++) {
            samples += 1 << WIDTHS[n];
        }
        return samples;
    }

    /** "the width that the step had when the latest run .. ended (also one to the end ..), before it was one less" */
    private static void limitGoesByTheWidthOfEachStep() {
        for (int step = 0; step < 32; step++) {
            for (int n = 0; n < 4; n++) {
                LineGolomb x = new LineGolomb(8, 0, 26);
                x.run(samplesTo(step), true);
                boolean toEnd = n < 2;
                if (!toEnd) {
                    x.run(0, false);
                }
                String what = "limit at step " + step + (toEnd ? ", to the end" : ", ended");
                limitIs(x, what, 26 - 1 - 8 - 1 - WIDTHS[step], n % 2 == 0);
                readsAll(x, step, toEnd);
            }
        }
    }

    private static void readsAll(LineGolomb x, int step, boolean toEnd) {
        x.pass(0, 1000);
        if (step > 0) {
            Check.same("run read", x.readRun(samplesTo(step)), samplesTo(step));
        }
        if (!toEnd) {
            Check.same("run read", x.readRun(1), 0);
        }
        Check.same("end read", x.readInterrupt(0) == LineGolomb.NO_ERROR, false);
        Check.same("waiting", x.waiting(), 0);
        Check.same("states", Check.state(x, true, 0), Check.state(x, false, 0));
    }

    /** "the latest run of that side" */
    private static void limitGoesByTheLatestRunOfThatSide() {
        LineGolomb x = new LineGolomb(8, 0, 26);
        x.run(12, true);
        // At step 8 the width is 2; a run of nothing to the end of the line is the latest one all the same.
        x.run(0, false);
        x.run(0, true);
        limitIs(x, "width 1, by a run in no bits", 15, false);
        LineGolomb y = new LineGolomb(8, 0, 26);
        y.run(65535, true);
        y.run(0, false);
        y.run(0, false);
        limitIs(y, "width 14, by the latest of two", 2, false);
        // A run that was written says nothing of those that are read, and the other way round.
        LineGolomb z = new LineGolomb(8, 0, 26);
        z.run(65535, true);
        Check.feed(z, "0".repeat(16) + "1" + "00111111");
        Check.same("no run was read", z.readInterrupt(0), 32);
        Check.same("all went", z.waiting(), 0);
        LineGolomb w = new LineGolomb(8, 0, 26);
        Check.feed(w, "1".repeat(12));
        Check.same("read", w.readRun(28), 28);
        limitIs(w, "no run was written", 16, false);
    }

    /** "the latest run": the ends and numbers behind it do not matter, on either side */
    private static void limitStaysUntilTheNextRun() {
        LineGolomb x = new LineGolomb(8, 0, 26);
        // At step 12 the width is 3: what takes the other form is in 22 bits.
        x.run(28, true);
        x.code(0, 5);
        x.interrupt(0, 0);
        Check.same("behind a number and an end of kind 0", x.interrupt(1, 128), 22);
        x.clear();
        x.run(28, true);
        x.interrupt(1, 1);
        x.code(0, 256);
        Check.same("behind an end of kind 1 and a number", x.interrupt(0, 128), 22);
        LineGolomb y = new LineGolomb(8, 0, 26);
        Check.feed(y, "1".repeat(12) + "000001" + "100" + "0".repeat(14));
        Check.same("a run", y.readRun(28), 28);
        Check.same("a number", y.read(0), 5);
        Check.same("an end of kind 0", y.readInterrupt(0), 0);
        Check.same("14 bits 0 are too many", y.readInterrupt(1), LineGolomb.NO_ERROR);
        Check.same("they go", y.waiting(), 0);
        Check.feed(y, "101" + "0".repeat(14));
        Check.same("an end of kind 1", y.readInterrupt(1), 1);
        Check.same("14 bits 0 are too many", y.readInterrupt(0), LineGolomb.NO_ERROR);
        Check.same("they go", y.waiting(), 0);
    }

    /** "UnsupportedOperation: more than 6000 bits would be written" */
    private static void rowHasRoomForJustThat() {
        // Kind, error, how many bits that is in at first.
        int[][] ends = {{0, 0, 3}, {0, -1, 3}, {0, 31, 18}, {0, 128, 25}, {1, -1, 3}, {1, 3, 4}, {1, 128, 25}, {1, -128, 25}};
        for (int[] end : ends) {
            LineGolomb x = new LineGolomb(8, 0, 26);
            Check.fillTo(x, 6000 - end[2]);
            Check.same("just room", x.interrupt(end[0], end[1]), end[2]);
            Check.same("size", x.size(), 6000);
            TWINS.refused("interrupt " + end[0] + " " + end[1] + " with a bit too many", UNSUPPORTED,
                y -> Check.fillTo(y, 6001 - end[2]), y -> y.interrupt(end[0], end[1]));
        }
    }

    /** "A call that throws changes nothing": also not the width of the latest run, 3, that the next end's limit goes by */
    private static void widthStaysWithoutRoom() {
        LineGolomb x = new LineGolomb(8, 0, 26);
        Check.same("to step 12", x.run(30, false), 12 + 1 + 3);
        Check.same("and back", x.step(false), 11);
        Check.fillTo(x, 6000 - 21);
        Check.unsupported("22 bits", () -> x.interrupt(0, 64));
        Check.unsupported("with 13 bits 0 it takes the other form, in 22 bits", () -> x.interrupt(0, -27));
        Check.same("with 12 bits 0 it does not", x.interrupt(0, -26), 12 + 1 + 2);
    }

    /** "IndexOutOfBounds: there is no such .. kind" */
    private static void kindHasTwoBounds() {
        for (int kind : new int[] {-1, 2, 3, LEAST, MOST}) {
            TWINS.refused("interrupt of kind " + kind, OUT, x -> x.run(9, false), x -> x.interrupt(kind, 1));
            TWINS.refused("readInterrupt of nothing, kind " + kind, OUT, x -> x.run(9, false), x -> x.readInterrupt(kind));
            TWINS.refused("readInterrupt of an end, kind " + kind, OUT, x -> Check.feed(x, "101101"), x -> x.readInterrupt(kind));
            TWINS.refused("readInterrupt of bits 0, kind " + kind, OUT,
                x -> Check.feed(x, "0".repeat(30)), x -> x.readInterrupt(kind));
        }
    }

    /** "NO_ERROR, with nothing changed, if it is not all there" */
    private static void endsThatAreNotAllThere() {
        for (int kind = 0; kind < 2; kind++) {
            waitsForAll(kind, "", "100");
            waitsForAll(kind, "", "0".repeat(15) + "111");
            waitsForAll(kind, "", "0".repeat(16) + "1" + "11111100");
            // A run of width 2 was read: 2 bits 0 fewer may be.
            waitsForAll(kind, "1".repeat(8), "0".repeat(13) + "111");
            waitsForAll(kind, "1".repeat(8), "0".repeat(14) + "1" + "11111100");
        }
    }

    private static void waitsForAll(int kind, String run, String whole) {
        for (int n = 0; n < whole.length(); n++) {
            String part = whole.substring(0, n);
            String what = "readInterrupt " + kind + " of " + part;
            TWINS.unchanged(what, x -> {
                readRunOf12(x, run);
                Check.feed(x, part);
            }, x -> Check.same(what, x.readInterrupt(kind), LineGolomb.NO_ERROR));
        }
        LineGolomb y = new LineGolomb(8, 0, 26);
        readRunOf12(y, run);
        Check.feed(y, whole + "0");
        Check.same("all there", y.readInterrupt(kind) == LineGolomb.NO_ERROR, false);
        Check.same("just its bits went", y.waiting(), 1);
        Check.same("count", y.state(true, kind, 1), 2);
    }

    private static void readRunOf12(LineGolomb x, String run) {
        Check.feed(x, run);
        if (!run.isEmpty()) {
            Check.same("a run", x.readRun(12), 12);
        }
    }

    /** "or is none: too many bits 0 (one more than there may be goes, as told of reading numbers)" */
    private static void tooManyZeros() {
        for (int kind = 0; kind < 2; kind++) {
            int of = kind;
            for (String rest : new String[] {"", "1", "0", "0001101", "0".repeat(16), "0".repeat(17) + "1"}) {
                TWINS.alike("17 bits 0, then " + rest, x -> {
                    Check.feed(x, "0".repeat(17) + rest);
                    Check.same("readInterrupt", x.readInterrupt(of), LineGolomb.NO_ERROR);
                    Check.same("waiting", x.waiting(), rest.length());
                }, x -> Check.feed(x, rest));
            }
        }
    }

    /** How many bits 0 there may be goes by the width of the latest run that was read. */
    private static void tooManyZerosByTheWidthOfEachStep() {
        for (int step = 1; step < 32; step++) {
            int zeros = 26 - 1 - 8 - 1 - WIDTHS[step];
            LineGolomb x = new LineGolomb(8, 0, 26);
            Check.feed(x, "1".repeat(step));
            x.readRun(samplesTo(step));
            Check.feed(x, "0".repeat(zeros));
            Check.same("as many as may be", x.readInterrupt(0), LineGolomb.NO_ERROR);
            Check.same("they wait", x.waiting(), zeros);
            Check.feed(x, "0");
            Check.same("one more", x.readInterrupt(0), LineGolomb.NO_ERROR);
            Check.same("they go", x.waiting(), 0);
            Check.feed(x, "0".repeat(zeros) + "1" + "00000001");
            Check.same("the width stays", x.readInterrupt(0), 1);
            Check.same("all went", x.waiting(), 0);
        }
    }

    /** "or an error that is none that is told (then its bits go)" */
    private static void farErrorsAreNone() {
        for (int[] with : SPANS) {
            for (int kind = 0; kind < 2; kind++) {
                int half = with[2] / 2;
                // With k above 0 the flag is for what is below 0.
                readsOrNot(with, kind, 2 * half - kind, half);
                readsOrNot(with, kind, 2 * half - kind - 1, -half);
                readsOrNot(with, kind, 2 * half + 2 - kind, LineGolomb.NO_ERROR);
                readsOrNot(with, kind, 2 * half + 1 - kind, LineGolomb.NO_ERROR);
            }
        }
        // The same in the other form: a span of 129 needs a Q of 8, so that M goes to 256.
        otherFormOfSpan129(128, 64);
        otherFormOfSpan129(127, -64);
        otherFormOfSpan129(129, LineGolomb.NO_ERROR);
        otherFormOfSpan129(130, LineGolomb.NO_ERROR);
        otherFormOfSpan129(256, LineGolomb.NO_ERROR);
    }

    private static void readsOrNot(int[] with, int kind, int number, int due) {
        LineGolomb first = new LineGolomb(with[0], with[1], 200);
        int q = first.told(4);
        String bits = Check.number(first.state(true, kind, 3), number, 200 - 1 - q - 1, q);
        String what = "span " + with[2] + " kind " + kind + " number " + number;
        noneOrOne(new Twins(with[0], with[1], 200), what, kind, bits, due);
    }

    private static void otherFormOfSpan129(int number, int due) {
        String bits = "0".repeat(16) + "1" + Check.binary(number - 1, 8);
        noneOrOne(new Twins(15, 128, 26), "span 129, the other form of " + number, 0, bits, due);
    }

    /** If there is no error due, the object is as if the bits had never come. */
    private static void noneOrOne(Twins twins, String what, int kind, String bits, int due) {
        String rest = "0110";
        Twins.Use reading = x -> {
            Check.feed(x, bits + rest);
            Check.same(what, x.readInterrupt(kind), due);
            Check.same(what + " waiting", x.waiting(), rest.length());
            Check.same(what + " count", x.state(true, kind, 1), due == LineGolomb.NO_ERROR ? 1 : 2);
        };
        if (due == LineGolomb.NO_ERROR) {
            twins.alike(what + " changes nothing", reading, x -> Check.feed(x, rest));
        } else {
            twins.use(reading);
        }
    }

    /** "the sum (what = 0), count (1), negatives (2), k (3). IllegalArgument: what is none of these" */
    private static void stateHasItsBounds() {
        for (int side = 0; side < 2; side++) {
            boolean reading = side == 1;
            for (int wrong : new int[] {-1, 4, 5, LEAST, MOST}) {
                TWINS.refused("what " + wrong, ILLEGAL, x -> x.interrupt(0, -3), x -> x.state(reading, 0, wrong));
                TWINS.refused("what " + wrong, ILLEGAL, x -> x.interrupt(1, -3), x -> x.state(reading, 1, wrong));
            }
            for (int kind : new int[] {-1, 2, 3, LEAST, MOST}) {
                TWINS.refused("kind " + kind, OUT, x -> x.interrupt(0, -3), x -> x.state(reading, kind, 0));
                TWINS.refused("kind " + kind, OUT, x -> x.interrupt(0, -3), x -> x.state(reading, kind, 3));
                TWINS.refused("kind " + kind + " and no such what", OUT, x -> x.interrupt(0, -3), x -> x.state(reading, kind, 4));
            }
        }
        LineGolomb x = new LineGolomb(8, 0, 26);
        x.interrupt(0, -5);
        x.interrupt(1, 9);
        Check.same("kind 0", Check.state(x, false, 0), "9 2 1 3");
        Check.same("kind 1", Check.state(x, false, 1), "12 2 0 3");
        Check.same("the other side", Check.state(x, true, 0) + " " + Check.state(x, true, 1), "4 1 0 2 4 1 0 2");
    }
}
