/** Promises 3, 10, 12 and 16: runs written and read, whether they were ended, and the steps. */
public final class RunsTest {
    public static void main(String[] args) {
        runsThatAreEnded();
        runsToTheEnd();
        widthsOfAllSteps();
        wrongRunsAreRefused();
        noMoreThanTheRowHolds();
        readsEndedRuns();
        readsRunsToTheEnd();
        unfinishedRunsWait();
        runsThatAreTooLong();
        wrongReadsAreRefused();
        readsWhatWasWritten();
        Check.end("RunsTest");
    }

    private static void writes(LineGolomb x, int samples, boolean toEnd, String due, int step) {
        int from = x.size();
        String what = "run " + samples + " " + toEnd;
        Check.same(what, x.run(samples, toEnd), due.length());
        Check.same(what + " bits", Check.written(x, from), due);
        Check.same(what + " step", x.step(false), step);
        Check.same(what + " other step", x.step(true), 0);
    }

    private static void runsThatAreEnded() {
        LineGolomb x = new LineGolomb(8, 0, 32);
        writes(x, 0, false, "0", 0);
        writes(x, 1, false, "10", 0);
        writes(x, 3, false, "1110", 2);
        // Steps 2 and 3 are 1 wide, 4 to 7 are 2: 2 + 2 * 3 is 8, and 1 is over.
        writes(x, 9, false, "11111" + "0" + "1", 6);
        writes(x, 1, false, "0" + "1", 5);
        writes(x, 2, false, "1" + "0" + "0", 5);
    }

    private static void runsToTheEnd() {
        LineGolomb x = new LineGolomb(8, 0, 32);
        writes(x, 0, true, "", 0);
        writes(x, 4, true, "1111", 4);
        writes(x, 0, true, "", 4);
        writes(x, 1, true, "1", 4);
        writes(x, 2, true, "1", 5);
        writes(x, 3, true, "11", 6);
    }

    private static void widthsOfAllSteps() {
        int[] widths = {0, 0, 0, 0, 1, 1, 1, 1, 2, 2, 2, 2, 3, 3, 3, 3, 4, 4, 5, 5, 6, 6, 7, 7,
            8, 9, 10, 11, 12, 13, 14, 15};
        LineGolomb x = new LineGolomb(8, 0, 32);
        for (int step = 0; step < 32; step++) {
            Check.same("step", x.step(false), step);
            writes(x, 1 << widths[step], true, "1", Math.min(step + 1, 31));
        }
        writes(x, 32768, true, "1", 31);
        writes(x, 65535, true, "11", 31);
        LineGolomb y = new LineGolomb(8, 0, 32);
        y.run(40000, true);
        for (int step = 31; step >= 0; step--) {
            writes(y, 0, false, "0".repeat(widths[step] + 1), Math.max(step - 1, 0));
        }
    }

    private static void wrongRunsAreRefused() {
        LineGolomb x = new LineGolomb(8, 0, 32);
        x.run(3, false);
        String before = Check.seen(x);
        for (int samples : new int[] {-1, 65536, Integer.MIN_VALUE, Integer.MAX_VALUE}) {
            Check.illegal("run " + samples, () -> x.run(samples, false));
            Check.illegal("run " + samples + " to the end", () -> x.run(samples, true));
        }
        Check.same("nothing changed", Check.seen(x), before);
        Check.same("most", new LineGolomb(8, 0, 32).run(65535, false), 47);
    }

    private static void noMoreThanTheRowHolds() {
        LineGolomb x = new LineGolomb(16, 0, 200);
        Check.fillTo(x, 5997);
        String before = Check.seen(x);
        Check.unsupported("4 bits", () -> x.run(3, false));
        Check.unsupported("4 bits to the end", () -> x.run(4, true));
        Check.illegal("both wrong", () -> x.run(-1, false));
        Check.same("nothing changed", Check.seen(x), before);
        Check.same("3 bits", x.run(3, true), 3);
        Check.same("no bits", x.run(0, true), 0);
        Check.unsupported("1 bit", () -> x.run(0, false));
        Check.same("size", x.size(), 6000);
        Check.same("step", x.step(false), 3);
    }

    private static void reads(LineGolomb x, int left, int due, boolean ended, int step) {
        Check.same("readRun " + left, x.readRun(left), due);
        Check.same("ended", x.wasEnded(), ended);
        Check.same("step", x.step(true), step);
        Check.same("other step", x.step(false), 0);
    }

    private static void readsEndedRuns() {
        LineGolomb x = new LineGolomb(8, 0, 32);
        Check.same("before one was", x.wasEnded(), false);
        Check.feed(x, "0" + "1110" + "11111" + "01" + "111");
        reads(x, 1, 0, true, 0);
        reads(x, 4, 3, true, 2);
        reads(x, 10, 9, true, 6);
        Check.same("the rest waits", x.waiting(), 3);
    }

    private static void readsRunsToTheEnd() {
        LineGolomb x = new LineGolomb(8, 0, 32);
        Check.feed(x, "1111" + "1" + "1" + "11" + "11" + "0" + "00" + "1");
        reads(x, 4, 4, false, 4);
        // Less is left than a whole step: the step stays.
        reads(x, 1, 1, false, 4);
        // Just a whole step is left: no other bit goes.
        reads(x, 2, 2, false, 5);
        reads(x, 3, 3, false, 6);
        reads(x, 9, 4, true, 7);
        Check.same("the rest waits", x.waiting(), 1);
        reads(x, 1, 1, false, 7);
        Check.same("nothing waits", x.waiting(), 0);
    }

    private static void unfinishedRunsWait() {
        LineGolomb x = new LineGolomb(8, 0, 32);
        Check.feed(x, "0");
        reads(x, 2, 0, true, 0);
        reads(x, 20, LineGolomb.WAITS, true, 0);
        String whole = "11111111" + "0" + "10";
        for (int i = 0; i < whole.length(); i++) {
            reads(x, 20, LineGolomb.WAITS, true, 0);
            Check.same("waiting", x.waiting(), i);
            Check.feed(x, whole.substring(i, i + 1));
        }
        reads(x, 20, 14, true, 7);
        Check.same("waiting", x.waiting(), 0);
    }

    private static void runsThatAreTooLong() {
        LineGolomb x = new LineGolomb(8, 0, 32);
        Check.feed(x, "1111" + "1" + "0" + "1" + "11");
        reads(x, 4, 4, false, 4);
        // 2 and 1 are as much as is left.
        reads(x, 3, LineGolomb.NO_CODE, false, 4);
        Check.same("its bits went", x.waiting(), 2);
        LineGolomb y = new LineGolomb(8, 0, 32);
        Check.feed(y, "0" + "1111" + "1111" + "0" + "11" + "0");
        reads(y, 9, 0, true, 0);
        reads(y, 4, 4, false, 4);
        // 8 and 3 are more than is left; whether the latest run was ended stays as well.
        reads(y, 10, LineGolomb.NO_CODE, false, 4);
        Check.same("its bits went", y.waiting(), 1);
        LineGolomb z = new LineGolomb(8, 0, 32);
        Check.feed(z, "1111" + "0" + "0" + "1");
        // One less than is left is a run.
        reads(z, 5, 4, true, 3);
        Check.same("the rest waits", z.waiting(), 1);
    }

    private static void wrongReadsAreRefused() {
        LineGolomb x = new LineGolomb(8, 0, 32);
        Check.feed(x, "1".repeat(50));
        String before = Check.seen(x);
        for (int left : new int[] {0, -1, 65536, Integer.MIN_VALUE, Integer.MAX_VALUE}) {
            Check.illegal("readRun " + left, () -> x.readRun(left));
        }
        Check.same("nothing changed", Check.seen(x), before);
        reads(x, 65535, 65535, false, 31);
        // 30 whole steps up to 16384 and one of 32768 leave less than another.
        Check.same("waiting", x.waiting(), 50 - 32);
    }

    private static void readsWhatWasWritten() {
        LineGolomb x = new LineGolomb(8, 0, 32);
        int[] runs = {0, 1, 5, 17, 40, 100, 1000, 3, 0, 65534, 2, 65534, 40000, 0, 7};
        for (int samples : runs) {
            for (int n = 0; n < 2; n++) {
                int from = x.size();
                int length = x.run(samples, n == 1);
                Check.same("pass", x.pass(from, length), length);
                int left = n == 1 ? samples : samples + 1;
                if (left > 0) {
                    Check.same("readRun " + samples, x.readRun(left), samples);
                    Check.same("ended", x.wasEnded(), n == 0);
                }
                Check.same("steps", x.step(true), x.step(false));
                Check.same("waiting", x.waiting(), 0);
            }
        }
    }
}
