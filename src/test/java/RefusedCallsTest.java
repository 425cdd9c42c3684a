/** Terms: the order of exceptions, and that a call which throws changes nothing, in each state that names a bound. */
public final class RefusedCallsTest {
    private static final int LEAST = Integer.MIN_VALUE, MOST = Integer.MAX_VALUE;
    private static final String OUT = "IndexOutOfBoundsException", ILLEGAL = "IllegalArgumentException";
    private static final String UNSUPPORTED = "UnsupportedOperationException";
    private static final Twins TWINS = new Twins(8, 0, 26);

    public static void main(String[] args) {
        noKindGoesBeforeNoError();
        noErrorGoesBeforeNoRoom();
        noNumberGoesBeforeNoRoom();
        noRunGoesBeforeNoRoom();
        noBitGoesBeforeNoNumberOfThem();
        noKindGoesBeforeNoWhat();
        refusedInAllStates();
        Check.end("RefusedCallsTest");
    }

    private static void nothing(LineGolomb x) {
        Check.same("nothing is there", x.size() + x.waiting(), 0);
    }

    private static void fullRow(LineGolomb x) {
        Check.fillTo(x, 6000);
    }

    /** Steps at their last, states of all four, ended runs on both sides, and bits that wait. */
    private static void muchUsed(LineGolomb x) {
        x.run(65535, false);
        x.interrupt(0, -40);
        x.interrupt(1, 3);
        x.pass(0, 1000);
        x.readRun(65535);
        x.run(1, true);
        Check.feed(x, "0010110");
    }

    private static void justBeforeHalving(LineGolomb x) {
        for (int n = 0; n < 63; n++) {
            x.interrupt(0, 0);
        }
    }

    private static void manyWaiting(LineGolomb x) {
        x.code(0, 256);
        for (int n = 0; n < 40; n++) {
            x.pass(0, 26);
        }
        Check.same("no room", x.waiting(), 1000);
    }

    /** "Of several that a call names, the first one": IndexOutOfBounds, then IllegalArgument, then UnsupportedOperation */
    private static void noKindGoesBeforeNoError() {
        for (int kind : new int[] {-1, 2, LEAST, MOST}) {
            for (int error : new int[] {129, -129, LEAST, MOST}) {
                TWINS.refused("interrupt " + kind + " " + error, OUT, RefusedCallsTest::muchUsed, x -> x.interrupt(kind, error));
            }
            TWINS.refused("interrupt " + kind + " without room", OUT, RefusedCallsTest::fullRow, x -> x.interrupt(kind, 1));
            TWINS.refused("interrupt, all wrong", OUT, RefusedCallsTest::fullRow, x -> x.interrupt(kind, 129));
        }
    }

    private static void noErrorGoesBeforeNoRoom() {
        TWINS.refused("too far", ILLEGAL, RefusedCallsTest::fullRow, x -> x.interrupt(0, 129));
        TWINS.refused("too far below", ILLEGAL, RefusedCallsTest::fullRow, x -> x.interrupt(1, -129));
        TWINS.refused("0 of kind 1", ILLEGAL, RefusedCallsTest::fullRow, x -> x.interrupt(1, 0));
        TWINS.refused("farthest", UNSUPPORTED, RefusedCallsTest::fullRow, x -> x.interrupt(0, 128));
        TWINS.refused("0 of kind 0", UNSUPPORTED, RefusedCallsTest::fullRow, x -> x.interrupt(0, 0));
    }

    private static void noNumberGoesBeforeNoRoom() {
        int[][] wrong = {{-1, 0}, {9, 0}, {0, -1}, {0, 257}, {8, 257}, {9, -1}, {LEAST, MOST}};
        for (int[] code : wrong) {
            TWINS.refused("code " + code[0] + " " + code[1], ILLEGAL, RefusedCallsTest::fullRow, x -> x.code(code[0], code[1]));
        }
        int[][] right = {{0, 0}, {8, 0}, {0, 256}, {8, 256}};
        for (int[] code : right) {
            TWINS.refused("code " + code[0] + " " + code[1], UNSUPPORTED, RefusedCallsTest::fullRow, x -> x.code(code[0], code[1]));
        }
    }

    private static void noRunGoesBeforeNoRoom() {
        for (int samples : new int[] {-1, 65536, LEAST, MOST}) {
            TWINS.refused("run " + samples, ILLEGAL, RefusedCallsTest::fullRow, x -> x.run(samples, false));
            TWINS.refused("run " + samples + " to the end", ILLEGAL, RefusedCallsTest::fullRow, x -> x.run(samples, true));
        }
        TWINS.refused("run 0", UNSUPPORTED, RefusedCallsTest::fullRow, x -> x.run(0, false));
        TWINS.refused("run 65535", UNSUPPORTED, RefusedCallsTest::fullRow, x -> x.run(65535, false));
        TWINS.refused("run 65535 to the end", UNSUPPORTED, RefusedCallsTest::fullRow, x -> x.run(65535, true));
    }

    private static void noBitGoesBeforeNoNumberOfThem() {
        for (int i : new int[] {-1, LEAST, MOST, 6001}) {
            for (int many : new int[] {-1, LEAST}) {
                TWINS.refused("pass " + i + " " + many, OUT, RefusedCallsTest::muchUsed, x -> x.pass(i, many));
                TWINS.refused("pass " + i + " " + many + " of none", OUT, RefusedCallsTest::nothing, x -> x.pass(i, many));
                TWINS.refused("pass " + i + " " + many + " of all", OUT, RefusedCallsTest::fullRow, x -> x.pass(i, many));
                TWINS.refused("pass " + i + " " + many + " without room", OUT, RefusedCallsTest::manyWaiting, x -> x.pass(i, many));
            }
        }
    }

    private static void noKindGoesBeforeNoWhat() {
        for (int kind : new int[] {-1, 2, LEAST, MOST}) {
            for (int what : new int[] {-1, 4, LEAST, MOST}) {
                TWINS.refused("state " + kind + " " + what, OUT, RefusedCallsTest::muchUsed, x -> x.state(true, kind, what));
                TWINS.refused("state " + kind + " " + what, OUT, RefusedCallsTest::muchUsed, x -> x.state(false, kind, what));
            }
        }
    }

    /** "A call that throws changes nothing" */
    private static void refusedInAllStates() {
        Twins.Use[] states = {
            RefusedCallsTest::nothing, RefusedCallsTest::muchUsed, RefusedCallsTest::justBeforeHalving,
            RefusedCallsTest::manyWaiting, RefusedCallsTest::fullRow};
        for (int n = 0; n < states.length; n++) {
            refusedIn(n, states[n]);
        }
    }

    private static void refusedIn(int n, Twins.Use state) {
        String in = " in state " + n;
        TWINS.refused("code of a wrong k" + in, ILLEGAL, state, x -> x.code(9, 1));
        TWINS.refused("code of a wrong number" + in, ILLEGAL, state, x -> x.code(1, 257));
        TWINS.refused("run" + in, ILLEGAL, state, x -> x.run(65536, false));
        TWINS.refused("run to the end" + in, ILLEGAL, state, x -> x.run(-1, true));
        TWINS.refused("interrupt of no kind" + in, OUT, state, x -> x.interrupt(2, -1));
        TWINS.refused("interrupt of no error" + in, ILLEGAL, state, x -> x.interrupt(1, 0));
        TWINS.refused("interrupt too far" + in, ILLEGAL, state, x -> x.interrupt(0, -129));
        TWINS.refused("bitAt before" + in, OUT, state, x -> x.bitAt(-1));
        TWINS.refused("bitAt behind" + in, OUT, state, x -> x.bitAt(6000));
        TWINS.refused("feed" + in, ILLEGAL, state, x -> x.feed(2));
        TWINS.refused("pass of no bit" + in, OUT, state, x -> x.pass(6001, 1));
        TWINS.refused("pass of fewer than none" + in, ILLEGAL, state, x -> x.pass(0, -1));
        TWINS.refused("read" + in, ILLEGAL, state, x -> x.read(9));
        TWINS.refused("readRun" + in, ILLEGAL, state, x -> x.readRun(0));
        TWINS.refused("readRun of too many" + in, ILLEGAL, state, x -> x.readRun(65536));
        TWINS.refused("readInterrupt" + in, OUT, state, x -> x.readInterrupt(2));
        TWINS.refused("map" + in, ILLEGAL, state, x -> x.map(65537, false));
        TWINS.refused("unmap" + in, ILLEGAL, state, x -> x.unmap(-1, true));
        TWINS.refused("state of no kind" + in, OUT, state, x -> x.state(false, -1, 0));
        TWINS.refused("state of no what" + in, ILLEGAL, state, x -> x.state(true, 1, 4));
    }
}
