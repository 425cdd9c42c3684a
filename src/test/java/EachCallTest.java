/**
 * "Nothing is promised beyond the answers and state changes described above": each call, right and wrong ones, in
 * states in which all that an object holds is other than at first, changes what is told of it, and nothing else.
 */
public final class EachCallTest {
    private static final String[] WRITING = {
        "code(0, 0)", "code(2, 13)", "code(0, 256)", "code(8, 256)",
        "code(-1, 0)", "code(9, 0)", "code(0, -1)", "code(8, 257)",
        "run(0, false)", "run(0, true)", "run(5, false)", "run(5, true)", "run(65535, false)", "run(65535, true)",
        "run(-1, false)", "run(-1, true)", "run(65536, false)", "run(65536, true)",
        "interrupt(0, 0)", "interrupt(0, 9)", "interrupt(0, -9)", "interrupt(0, 64)", "interrupt(0, -64)",
        "interrupt(1, 1)", "interrupt(1, -1)", "interrupt(1, 64)", "interrupt(1, -64)",
        "interrupt(-1, 1)", "interrupt(2, 1)", "interrupt(0, 129)", "interrupt(0, -129)", "interrupt(1, 129)",
        "interrupt(1, 0)"};
    private static final String[] BITS = {
        "bitAt(0)", "bitAt(9)", "bitAt(-1)", "bitAt(6000)", "size()",
        "feed(0)", "feed(1)", "feed(-1)", "feed(2)",
        "pass(0, 0)", "pass(0, 1)", "pass(0, 7)", "pass(3, 1000)", "pass(-1, 1)", "pass(6001, 1)", "pass(0, -1)",
        "waiting()"};
    private static final String[] READING = {
        "read(0)", "read(2)", "read(8)", "read(-1)", "read(9)",
        "readRun(1)", "readRun(3)", "readRun(20)", "readRun(65535)", "readRun(0)", "readRun(65536)",
        "readInterrupt(0)", "readInterrupt(1)", "readInterrupt(-1)", "readInterrupt(2)", "wasEnded()"};
    private static final String[] LOOKING = {
        "map(0, false)", "map(-7, false)", "map(7, true)", "map(65537, true)",
        "unmap(0, true)", "unmap(7, false)", "unmap(8, true)", "unmap(-1, false)",
        "step(false)", "step(true)",
        "state(false, 0, 0)", "state(false, 1, 1)", "state(true, 0, 2)", "state(true, 1, 3)",
        "state(false, 0, 3)", "state(true, 2, 0)", "state(false, -1, 0)", "state(false, 0, 4)", "state(true, 1, -1)",
        "told(0)", "told(1)", "told(2)", "told(3)", "told(4)", "told(5)", "told(-1)",
        "clear()"};
    private static final String[][] ALL = {WRITING, BITS, READING, LOOKING};

    // Each side's latest run fell from one width to another, and the two sides differ in all.
    private static final String USED = "run(13, false); interrupt(0, -5); interrupt(0, 7); interrupt(1, -9); "
        + "interrupt(1, 2); interrupt(1, -3); code(2, 13); pass(0, 1000); readRun(14); readInterrupt(0); "
        + "readInterrupt(0); readInterrupt(1); readInterrupt(1); readInterrupt(1); read(2); "
        + "run(20, false); interrupt(0, -3); interrupt(1, 4)";
    private static final String TO_THE_END = USED + "; feed(1); readRun(1)";
    private static final String LAST_STEP = "run(65534, false); pass(0, 1000); readRun(65535)";

    // A number, too many bits 0, a whole run to the end, one that has as much as is left, far errors, less than a code.
    private static final String[] WAITING = {
        "", "0", "1", "10", "110", "1110", "0".repeat(60) + "1", "1".repeat(12), "1110" + "1".repeat(12), "10" + "1".repeat(12),
        "0".repeat(20) + "1" + "1".repeat(9), "0".repeat(45) + "1" + "1".repeat(9), "0".repeat(51) + "1" + "0".repeat(9),
        "0".repeat(49) + "1" + "1".repeat(9), "0".repeat(48) + "1" + "1".repeat(9), "0".repeat(47) + "1" + "1".repeat(9)};

    private interface State {
        void make(Pair pair);
    }

    public static void main(String[] args) {
        statesAreAsMeant();
        // Spans of 256 and 129: with the second one there are numbers of far errors.
        for (int[] with : new int[][] {{8, 0, 60}, {15, 128, 60}}) {
            inState(with, "new", p -> p.feed("0110100"), ALL);
            inState(with, "used", p -> used(p, USED, "0110100"), ALL);
            inState(with, "used to the end", p -> used(p, TO_THE_END, "0110100"), ALL);
            inState(with, "at the last step", p -> used(p, LAST_STEP, "0110100"), ALL);
            inState(with, "counts of 64", EachCallTest::countsOf64, ALL);
            inState(with, "1000 waiting", EachCallTest::thousandWaiting, ALL);
            inState(with, "a row with room for an end alone", p -> fill(p, 6000 - 59), ALL);
            inState(with, "a row with room for 3 bits", p -> fill(p, 5997), ALL);
            inState(with, "a full row", p -> fill(p, 6000), ALL);
            for (String bits : WAITING) {
                inState(with, "new, with " + bits, p -> p.feed(bits), READING);
                inState(with, "used, with " + bits, p -> used(p, USED, bits), READING);
                inState(with, "used to the end, with " + bits, p -> used(p, TO_THE_END, bits), READING);
                inState(with, "at the last step, with " + bits, p -> used(p, LAST_STEP, bits), READING);
            }
        }
        Check.end("EachCallTest");
    }

    private static void statesAreAsMeant() {
        isAt(USED, 11, 7, true);
        isAt(TO_THE_END, 11, 7, false);
        isAt(LAST_STEP, 30, 30, true);
    }

    private static void isAt(String calls, int writing, int reading, boolean ended) {
        Pair pair = new Pair(calls, 8, 0, 60);
        pair.askAll(calls);
        Check.same("writing step", pair.ask("step(false)"), writing);
        Check.same("reading step", pair.ask("step(true)"), reading);
        Check.same("ended", pair.ask("wasEnded()"), ended);
        Check.same("waiting", pair.ask("waiting()"), 0);
    }

    private static void inState(int[] with, String name, State state, String[]... groups) {
        for (String[] calls : groups) {
            for (String call : calls) {
                Pair pair = new Pair(name + ", " + call, with[0], with[1], with[2]);
                state.make(pair);
                pair.ask(call);
                pair.tellAll();
            }
        }
    }

    private static void used(Pair pair, String calls, String bits) {
        pair.askAll(calls);
        pair.feed(bits);
    }

    private static void countsOf64(Pair pair) {
        pair.askAll("run(13, false); pass(0, 1000); readRun(14)");
        for (int n = 0; n < 63; n++) {
            pair.ask("interrupt(0, " + (n % 4 - 2) + ")");
        }
        pair.ask("pass(11, 1000)");
        for (int n = 0; n < 63; n++) {
            pair.ask("readInterrupt(0)");
        }
        pair.feed("1011");
    }

    private static void thousandWaiting(Pair pair) {
        pair.askAll(USED);
        pair.passUntil(1000);
    }

    private static void fill(Pair pair, int bits) {
        pair.askAll(USED);
        pair.feed("0110100");
        pair.fillTo(bits);
    }
}
