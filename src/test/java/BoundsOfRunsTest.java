/** Terms and promises 3, 10, 12 and 16: the bounds of runs, written and read, and of the steps. */
public final class BoundsOfRunsTest {
    private static final int LEAST = Integer.MIN_VALUE, MOST = Integer.MAX_VALUE;
    private static final String ILLEGAL = "IllegalArgumentException", UNSUPPORTED = "UnsupportedOperationException";
    private static final int[] WIDTHS = {
        0, 0, 0, 0, 1, 1, 1, 1, 2, 2, 2, 2, 3, 3, 3, 3, 4, 4, 5, 5, 6, 6, 7, 7, 8, 9, 10, 11, 12, 13, 14, 15};
    private static final Twins TWINS = new Twins(8, 0, 26);

    public static void main(String[] args) {
        oneLessThanAStep();
        justAStep();
        lastStepStays();
        firstStepStays();
        toTheEndWithNothingOver();
        toTheEndWithSomethingOver();
        samplesHaveTwoBounds();
        wrongRunsChangeNothing();
        rowHasRoomForJustThat();
        aRunOfNoBitsNeedsNoRoom();
        aBit1IsAllThatIsLeft();
        noBitGoesBehindTheEnd();
        runsThatAreNotAllThere();
        asMuchAsIsLeftIsNone();
        asMuchAsIsLeftBehindWholeSteps();
        leftHasTwoBounds();
        wrongReadsChangeNothing();
        endedIsOfTheLatestRun();
        eachSideHasItsStep();
        Check.end("BoundsOfRunsTest");
    }

    /** So many samples lead from step 0 to a step, a whole step at a time. */
    private static int samplesTo(int step) {
        int samples = 0;
        for (int n = 0; n < step; n++) {
            samples += 1 << WIDTHS[n];
        }
        return samples;
    }

    private static LineGolomb writingAt(int step) {
        LineGolomb x = new LineGolomb(8, 0, 26);
        Check.same("up to step " + step, x.run(samplesTo(step), true), step);
        Check.same("step", x.step(false), step);
        return x;
    }

    private static void readUpTo(LineGolomb x, int step) {
        Check.feed(x, "1".repeat(step));
        if (step > 0) {
            Check.same("up to step " + step, x.readRun(samplesTo(step)), samplesTo(step));
        }
        Check.same("step", x.step(true), step);
    }

    private static void writes(int step, int samples, boolean toEnd, String bits, int after) {
        LineGolomb x = writingAt(step);
        String what = "at step " + step + " run " + samples + " " + toEnd;
        Check.same(what, x.run(samples, toEnd), bits.length());
        Check.same(what + " bits", Check.written(x, step), bits);
        Check.same(what + " step", x.step(false), after);
        Check.same(what + " other step", x.step(true), 0);
    }

    /** Other bits wait behind those of the run: they must stay. */
    private static void reads(int step, int left, String bits, int samples, boolean ended, int after) {
        LineGolomb x = new LineGolomb(8, 0, 26);
        readUpTo(x, step);
        String what = "at step " + step + " readRun " + left + " of " + bits;
        Check.feed(x, bits + "001011");
        Check.same(what, x.readRun(left), samples);
        Check.same(what + " ended", x.wasEnded(), ended);
        Check.same(what + " step", x.step(true), after);
        Check.same(what + " other step", x.step(false), 0);
        Check.same(what + " waiting", x.waiting(), 6);
        Check.same(what + " next", x.read(3), 19);
    }

    /** "as long as n is not below 2^w": one less is; "else a bit 0, w bits of n, the highest first" */
    private static void oneLessThanAStep() {
        for (int step = 0; step < 32; step++) {
            int w = WIDTHS[step];
            int less = (1 << w) - 1;
            int lower = Math.max(step - 1, 0);
            writes(step, less, false, "0" + "1".repeat(w), lower);
            reads(step, less + 1, "0" + "1".repeat(w), less, true, lower);
            writes(step, 0, false, "0" + "0".repeat(w), lower);
            reads(step, 1, "0" + "0".repeat(w), 0, true, lower);
            if (w > 1) {
                int high = 1 << (w - 1);
                writes(step, high, false, "01" + "0".repeat(w - 1), lower);
                reads(step, high + 1, "01" + "0".repeat(w - 1), high, true, lower);
            }
        }
    }

    /** "as long as n is not below 2^w": just that is not; "a bit 1, n is less by that, and the step one more" */
    private static void justAStep() {
        for (int step = 0; step < 31; step++) {
            int whole = 1 << WIDTHS[step];
            int w = WIDTHS[step + 1];
            int two = whole + (1 << w);
            writes(step, whole, true, "1", step + 1);
            reads(step, whole, "1", whole, false, step + 1);
            writes(step, whole, false, "10" + "0".repeat(w), step);
            reads(step, whole + 1, "10" + "0".repeat(w), whole, true, step);
            writes(step, two - 1, false, "10" + "1".repeat(w), step);
            reads(step, two, "10" + "1".repeat(w), two - 1, true, step);
            writes(step, two, true, "11", Math.min(step + 2, 31));
            reads(step, two, "11", two, false, Math.min(step + 2, 31));
        }
    }

    /** "the step one more, if it was below 31" */
    private static void lastStepStays() {
        writes(30, 16384, true, "1", 31);
        reads(30, 16384, "1", 16384, false, 31);
        writes(31, 32768, true, "1", 31);
        reads(31, 32768, "1", 32768, false, 31);
        writes(31, 32768, false, "1" + "0" + "0".repeat(15), 30);
        reads(31, 32769, "1" + "0" + "0".repeat(15), 32768, true, 30);
        writes(31, 65535, false, "1" + "0" + "1".repeat(15), 30);
        reads(31, 65535, "1" + "0" + "1".repeat(14) + "0", 65534, true, 30);
        writes(30, 65535, false, "11" + "0" + "0" + "1".repeat(14), 30);
        reads(30, 65535, "11" + "0" + "0" + "1".repeat(13) + "0", 65534, true, 30);
    }

    /** "and the step is one less, if it was above 0" */
    private static void firstStepStays() {
        writes(0, 0, false, "0", 0);
        reads(0, 1, "0", 0, true, 0);
        writes(0, 1, false, "10", 0);
        reads(0, 2, "10", 1, true, 0);
        writes(1, 0, false, "0", 0);
        reads(1, 1, "0", 0, true, 0);
        writes(2, 0, false, "0", 1);
        reads(2, 1, "0", 0, true, 1);
    }

    /** "if the run goes to the end of the line: a bit 1, if n is above 0": not, if it is 0 */
    private static void toTheEndWithNothingOver() {
        for (int step = 0; step < 32; step++) {
            writes(step, 0, true, "", step);
        }
        writes(0, 4, true, "1111", 4);
        writes(0, 12, true, "11111111", 8);
        writes(0, 28, true, "1".repeat(12), 12);
    }

    /** "a bit 1, if n is above 0": one is, and one less than a whole step; the step stays */
    private static void toTheEndWithSomethingOver() {
        for (int step = 4; step < 32; step++) {
            int less = (1 << WIDTHS[step]) - 1;
            writes(step, 1, true, "1", step);
            reads(step, 1, "1", 1, false, step);
            writes(step, less, true, "1", step);
            reads(step, less, "1", less, false, step);
        }
        writes(0, 5, true, "11111", 4);
        reads(0, 5, "11111", 5, false, 4);
        writes(0, 11, true, "11111111", 7);
        reads(0, 11, "11111111", 11, false, 7);
        writes(31, 65535, true, "11", 31);
        reads(31, 65535, "11", 65535, false, 31);
    }

    /** "IllegalArgument: it is not 0 .. 65535 samples" */
    private static void samplesHaveTwoBounds() {
        LineGolomb x = new LineGolomb(8, 0, 26);
        for (int samples : new int[] {-1, 65536, -65535, 65537, 131071, LEAST, MOST}) {
            Check.illegal("run " + samples, () -> x.run(samples, false));
            Check.illegal("run " + samples + " to the end", () -> x.run(samples, true));
        }
        Check.same("size", x.size(), 0);
        Check.same("the least", x.run(0, false), 1);
        Check.same("the least, to the end", x.run(0, true), 0);
        // 33052 of them lead up to step 31; the others are less than another whole step.
        Check.same("the greatest, to the end", new LineGolomb(8, 0, 26).run(65535, true), 32);
        Check.same("the greatest", new LineGolomb(8, 0, 26).run(65535, false), 31 + 1 + 15);
    }

    private static void used(LineGolomb x) {
        x.run(9, false);
        x.interrupt(0, -3);
        x.run(1, true);
        x.pass(0, 100);
        x.readRun(20);
        x.readInterrupt(0);
    }

    /** "A call that throws changes nothing": run() */
    private static void wrongRunsChangeNothing() {
        for (int samples : new int[] {-1, 65536, LEAST, MOST}) {
            TWINS.refused("run " + samples, ILLEGAL, BoundsOfRunsTest::used, x -> x.run(samples, false));
            TWINS.refused("run " + samples + " to the end", ILLEGAL, BoundsOfRunsTest::used, x -> x.run(samples, true));
        }
    }

    /** "UnsupportedOperation: more than 6000 bits would be written" */
    private static void rowHasRoomForJustThat() {
        // Samples, to the end (1) or not, how many bits they are in at step 0.
        int[][] runs = {{0, 0, 1}, {1, 1, 1}, {4, 1, 4}, {5, 1, 5}, {5, 0, 6}, {65535, 0, 47}, {65535, 1, 32}};
        for (int[] run : runs) {
            boolean toEnd = run[1] == 1;
            LineGolomb x = new LineGolomb(8, 0, 26);
            Check.fillTo(x, 6000 - run[2]);
            Check.same("just room", x.run(run[0], toEnd), run[2]);
            Check.same("size", x.size(), 6000);
            Check.same("the bit before", x.bitAt(5999 - run[2]), 1);
            TWINS.refused("run " + run[0] + " " + toEnd + " with a bit too many", UNSUPPORTED,
                y -> Check.fillTo(y, 6001 - run[2]), y -> y.run(run[0], toEnd));
        }
        // There is room for an end behind it: that shows that the width of the latest run stays as well.
        TWINS.refused("far too many", UNSUPPORTED, y -> Check.fillTo(y, 5970), y -> y.run(65535, false));
        TWINS.refused("far too many to the end", UNSUPPORTED, y -> Check.fillTo(y, 5970), y -> y.run(65535, true));
        TWINS.refused("far too many behind a run", UNSUPPORTED, y -> runThenFill(y, 5970), y -> y.run(65535, false));
        TWINS.refused("too many to the end behind a run", UNSUPPORTED, y -> runThenFill(y, 5976), y -> y.run(65535, true));
    }

    /** A run that ended at a width of 2, and then fell to a step of width 1. */
    private static void runThenFill(LineGolomb x, int bits) {
        x.run(13, false);
        Check.same("step", x.step(false), 7);
        Check.fillTo(x, bits);
    }

    /** "UnsupportedOperation: more than 6000 bits would be written": not by a run that is written in none */
    private static void aRunOfNoBitsNeedsNoRoom() {
        LineGolomb x = new LineGolomb(8, 0, 200);
        Check.fillTo(x, 6000);
        Check.same("no bits", x.run(0, true), 0);
        Check.unsupported("a bit", () -> x.run(1, true));
        Check.unsupported("a bit 0", () -> x.run(0, false));
        Check.same("size", x.size(), 6000);
        Check.same("step", x.step(false), 0);
    }

    /** "A bit 1 is a whole step, if that is not more than is left yet, else all that is left" */
    private static void aBit1IsAllThatIsLeft() {
        for (int step = 0; step < 32; step++) {
            int whole = 1 << WIDTHS[step];
            int next = Math.min(step + 1, 31);
            reads(step, whole, "1", whole, false, next);
            if (whole > 1) {
                reads(step, whole - 1, "1", whole - 1, false, step);
            }
            if (WIDTHS[next] > 0) {
                // One more is left than a whole step: it takes another bit 1, or a bit 0 and as many bits as the next width.
                reads(step, whole + 1, "11", whole + 1, false, next);
                reads(step, whole + 1, "10" + "0".repeat(WIDTHS[next]), whole, true, next - 1);
            }
        }
    }

    /** "the run goes to the end, when nothing is left, or with such a bit" */
    private static void noBitGoesBehindTheEnd() {
        for (String behind : new String[] {"0", "1", "0000", "1111"}) {
            LineGolomb x = new LineGolomb(8, 0, 26);
            Check.feed(x, "1111" + "1" + "1" + behind);
            Check.same("4 whole steps", x.readRun(4), 4);
            Check.same("nothing is left", x.waiting(), 2 + behind.length());
            Check.same("less than a step", x.readRun(1), 1);
            Check.same("with such a bit", x.waiting(), 1 + behind.length());
            Check.same("step", x.step(true), 4);
            Check.same("just a step", x.readRun(2), 2);
            Check.same("nothing is left", x.waiting(), behind.length());
            Check.same("step", x.step(true), 5);
            Check.same("to the end", x.wasEnded(), false);
        }
    }

    /** "WAITS, with nothing changed, if it is not all there" */
    private static void runsThatAreNotAllThere() {
        waitsForAll(0, 1, "0");
        waitsForAll(0, 1, "1");
        waitsForAll(0, 14, "11111111" + "0" + "01");
        waitsForAll(0, 12, "11111111");
        waitsForAll(0, 13, "111111111");
        waitsForAll(4, 1, "1");
        waitsForAll(4, 2, "0" + "1");
        waitsForAll(12, 3, "0" + "010");
        // One that will be none: as long as its last bit is missing, that is not known.
        waitsForAll(4, 1, "0" + "1");
        waitsForAll(12, 5, "0" + "111");
        waitsForAll(31, 65535, "1" + "0" + "1".repeat(15));
    }

    private static void waitsForAll(int step, int left, String whole) {
        for (int n = 0; n < whole.length(); n++) {
            String part = whole.substring(0, n);
            String what = "at step " + step + " readRun " + left + " of " + part;
            TWINS.unchanged(what, x -> {
                Check.feed(x, "0");
                x.readRun(1);
                readUpTo(x, step);
                Check.feed(x, part);
            }, x -> Check.same(what, x.readRun(left), LineGolomb.WAITS));
        }
        LineGolomb y = new LineGolomb(8, 0, 26);
        readUpTo(y, step);
        Check.feed(y, whole);
        Check.same("at step " + step + " it is all there", y.readRun(left) == LineGolomb.WAITS, false);
        Check.same("all went", y.waiting(), 0);
    }

    /** "NO_CODE, if it is not to the end, but has as much as is left, or more: its bits go, the step is as it was" */
    private static void asMuchAsIsLeftIsNone() {
        for (int step = 4; step < 32; step++) {
            int w = WIDTHS[step];
            int most = (1 << w) - 1;
            reads(step, most + 1, "0" + "1".repeat(w), most, true, step - 1);
            isNone(step, most, "0" + "1".repeat(w));
            reads(step, 2, "0" + "0".repeat(w - 1) + "1", 1, true, step - 1);
            isNone(step, 1, "0" + "0".repeat(w - 1) + "1");
            isNone(step, 1, "0" + "1".repeat(w));
        }
    }

    /** The same, where whole steps go before: they leave the step as it was too. */
    private static void asMuchAsIsLeftBehindWholeSteps() {
        isNone(0, 5, "1111" + "0" + "1");
        reads(0, 6, "1111" + "0" + "1", 5, true, 3);
        isNone(0, 13, "11111111" + "0" + "01");
        isNone(0, 13, "11111111" + "0" + "11");
        isNone(0, 15, "11111111" + "0" + "11");
        reads(0, 16, "11111111" + "0" + "11", 15, true, 7);
        isNone(30, 16384 + 5, "1" + "0" + "0".repeat(12) + "101");
        reads(30, 16384 + 6, "1" + "0" + "0".repeat(12) + "101", 16384 + 5, true, 30);
        isNone(31, 65535, "1" + "0" + "1".repeat(15));
        isNone(31, 32769, "1" + "0" + "1".repeat(15));
    }

    /** Without its bits the object would be the same: also whether the latest run was ended, and that one's width. */
    private static void isNone(int step, int left, String bits) {
        String what = "at step " + step + " readRun " + left + " of " + bits;
        for (String ended : new String[] {"", "0"}) {
            TWINS.alike(what, x -> {
                comeTo(x, step, ended);
                Check.feed(x, bits + "0010110");
                Check.same(what, x.readRun(left), LineGolomb.NO_CODE);
                Check.same(what + " waiting", x.waiting(), 7);
            }, x -> {
                comeTo(x, step, ended);
                Check.feed(x, "0010110");
            });
        }
    }

    /** To a step by a run to the end of the line; or by one more, that is ended and so leads back to the step. */
    private static void comeTo(LineGolomb x, int step, String ended) {
        readUpTo(x, step);
        if (!ended.isEmpty() && step < 31) {
            int whole = 1 << WIDTHS[step];
            Check.feed(x, "10" + "0".repeat(WIDTHS[step + 1]));
            Check.same("an ended run", x.readRun(whole + 1), whole);
            Check.same("back at the step", x.step(true), step);
        }
    }

    /** "IllegalArgument: left is not 1 .. 65535" */
    private static void leftHasTwoBounds() {
        for (String bits : new String[] {"", "0", "1", "1".repeat(40)}) {
            LineGolomb x = new LineGolomb(8, 0, 26);
            Check.feed(x, bits);
            for (int left : new int[] {0, 65536, -1, 65537, -65535, 131071, LEAST, MOST}) {
                Check.illegal("readRun " + left, () -> x.readRun(left));
            }
            Check.same("waiting", x.waiting(), bits.length());
        }
        reads(0, 1, "0", 0, true, 0);
        reads(0, 65535, "0", 0, true, 0);
        reads(0, 1, "1", 1, false, 1);
        reads(0, 65535, "1".repeat(32), 65535, false, 31);
    }

    /** "A call that throws changes nothing": readRun() */
    private static void wrongReadsChangeNothing() {
        for (int left : new int[] {0, -1, 65536, LEAST, MOST}) {
            TWINS.refused("readRun " + left, ILLEGAL, BoundsOfRunsTest::used, x -> x.readRun(left));
            TWINS.refused("readRun " + left + " of bits 1", ILLEGAL, x -> Check.feed(x, "1".repeat(40)), x -> x.readRun(left));
            TWINS.refused("readRun " + left + " of bits 0", ILLEGAL, x -> Check.feed(x, "0".repeat(40)), x -> x.readRun(left));
        }
    }

    /** "Whether the run read last (that was one) did not go to the end of the line; false before one was" */
    private static void endedIsOfTheLatestRun() {
        LineGolomb x = new LineGolomb(8, 0, 26);
        Check.same("before one was", x.wasEnded(), false);
        Check.same("nothing waits", x.readRun(1), LineGolomb.WAITS);
        Check.same("before one was", x.wasEnded(), false);
        x.run(3, false);
        Check.same("one was written, not read", x.wasEnded(), false);
        Check.feed(x, "1111" + "0" + "1");
        Check.same("none", x.readRun(5), LineGolomb.NO_CODE);
        Check.same("before one was", x.wasEnded(), false);
        Check.feed(x, "0");
        Check.same("ended", x.readRun(1), 0);
        Check.same("ended", x.wasEnded(), true);
        Check.same("nothing waits", x.readRun(1), LineGolomb.WAITS);
        Check.same("still", x.wasEnded(), true);
        Check.feed(x, "1111" + "0" + "1");
        Check.same("none", x.readRun(5), LineGolomb.NO_CODE);
        Check.same("still", x.wasEnded(), true);
        x.run(3, true);
        Check.illegal("a wrong one", () -> x.readRun(0));
        Check.same("still", x.wasEnded(), true);
        Check.feed(x, "1111" + "1" + "01");
        Check.same("to the end", x.readRun(4), 4);
        Check.same("to the end", x.wasEnded(), false);
        Check.same("with such a bit", x.readRun(1), 1);
        Check.same("to the end", x.wasEnded(), false);
        Check.same("ended once more", x.readRun(2), 1);
        Check.same("ended once more", x.wasEnded(), true);
    }

    /** "Each side has a step, at first 0" */
    private static void eachSideHasItsStep() {
        LineGolomb x = new LineGolomb(8, 0, 26);
        x.run(3, true);
        Check.same("writing", x.step(false), 3);
        Check.same("reading", x.step(true), 0);
        readUpTo(x, 5);
        Check.same("writing", x.step(false), 3);
        Check.same("reading", x.step(true), 5);
        x.run(0, false);
        Check.same("writing", x.step(false), 2);
        Check.same("reading", x.step(true), 5);
    }
}
