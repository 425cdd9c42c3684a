/** Promises 4, 11 and 17: ends of runs written and read, and the states that go with them. */
public final class EndsTest {
    public static void main(String[] args) {
        flagsAndNumbers();
        signsTurnWhenKIsZero();
        statesOfBothKinds();
        statesAreHalved();
        limitGoesByTheLatestRun();
        limitWhenReadingGoesByTheLatestRunRead();
        wrongEndsAreRefused();
        noMoreThanTheRowHolds();
        unfinishedEndsWait();
        endsThatAreNone();
        wrongStatesAreRefused();
        readsWhatWasWritten();
        Check.end("EndsTest");
    }

    private static void writes(LineGolomb x, int kind, int error, String due) {
        int from = x.size();
        String what = "interrupt " + kind + " " + error;
        Check.same(what, x.interrupt(kind, error), due.length());
        Check.same(what + " bits", Check.written(x, from), due);
    }

    private static void flagsAndNumbers() {
        LineGolomb x = new LineGolomb(8, 0, 32);
        // k is 2: 5 is 10 without a flag.
        writes(x, 0, 5, "00110");
        Check.same("kind 0", Check.state(x, false, 0), "9 2 0 3");
        // k is 3: -3 is 6, less the flag.
        writes(x, 0, -3, "1101");
        Check.same("kind 0", Check.state(x, false, 0), "12 3 1 2");
        writes(x, 0, 0, "100");
        Check.same("kind 0", Check.state(x, false, 0), "12 4 1 2");
        Check.same("kind 1 is as it was", Check.state(x, false, 1), "4 1 0 2");
        // k is 2: -4 is 8, less the kind, less the flag.
        writes(x, 1, -4, "0110");
        Check.same("kind 1", Check.state(x, false, 1), "7 2 1 2");
        writes(x, 1, 1, "101");
        Check.same("kind 1", Check.state(x, false, 1), "7 3 1 2");
        Check.same("the other side", Check.state(x, true, 0) + " " + Check.state(x, true, 1), "4 1 0 2 4 1 0 2");
    }

    private static void signsTurnWhenKIsZero() {
        LineGolomb x = new LineGolomb(2, 0, 0);
        writes(x, 1, 1, "11");
        Check.same("T is 2 and 1", Check.state(x, false, 1), "2 2 0 1");
        writes(x, 1, -1, "10");
        Check.same("T is 2 and 1", Check.state(x, false, 1), "2 3 1 0");
        // Twice 1 is below 3: the flag is for what is above 0.
        writes(x, 1, 1, "1");
        Check.same("1 of 4", Check.state(x, false, 1), "2 4 1 0");
        writes(x, 1, -1, "01");
        Check.same("2 of 5", Check.state(x, false, 1), "2 5 2 0");
        writes(x, 1, -2, "0001");
        Check.same("3 of 6", Check.state(x, false, 1), "3 6 3 0");
        // Twice 3 is just 6, and not below: the flag is for what is below 0.
        writes(x, 1, -1, "1");
        Check.same("4 of 7", Check.state(x, false, 1), "3 7 4 0");
        writes(x, 1, 1, "01");
        Check.same("4 of 8", Check.state(x, false, 1), "3 8 4 0");
        writes(x, 1, 2, "0001");
        Check.same("4 of 9", Check.state(x, false, 1), "4 9 4 0");
        // Below once more: the flag is for what is above 0.
        writes(x, 1, 1, "1");
        Check.same("4 of 10", Check.state(x, false, 1), "4 10 4 0");
        writes(x, 1, -2, "0001");
        Check.same("5 of 11", Check.state(x, false, 1), "5 11 5 0");
    }

    private static void statesOfBothKinds() {
        LineGolomb x = new LineGolomb(16, 0, 200);
        Check.same("first", Check.state(x, false, 0), "1024 1 0 10");
        x.interrupt(0, 32768);
        Check.same("farthest above", Check.state(x, false, 0), "33792 2 0 15");
        x.interrupt(0, -32768);
        // 65535 and 1, halved, is more than the half of 65535.
        Check.same("farthest below", Check.state(x, false, 0), "66560 3 1 15");
        x.interrupt(1, 32768);
        Check.same("farthest above, kind 1", Check.state(x, false, 1), "33791 2 0 15");
        x.interrupt(1, -32768);
        Check.same("farthest below, kind 1", Check.state(x, false, 1), "66558 3 1 15");
    }

    private static void statesAreHalved() {
        LineGolomb x = new LineGolomb(8, 0, 32);
        for (int n = 0; n < 63; n++) {
            x.interrupt(0, n % 2 == 0 ? -3 : 4);
        }
        // 32 of -3 are 5 each, 31 of 4 are 8 each: 3 and 4 more.
        Check.same("before", Check.state(x, false, 0), (4 + 32 * 3 + 31 * 4) + " 64 32 2");
        x.interrupt(0, -3);
        Check.same("after", Check.state(x, false, 0), (227 / 2) + " 33 16 2");
        Check.same("the other kind", Check.state(x, false, 1), "4 1 0 2");
        for (int n = 0; n < 63; n++) {
            x.interrupt(1, 1);
        }
        Check.same("before, kind 1", Check.state(x, false, 1), "4 64 0 0");
        x.interrupt(1, 1);
        Check.same("after, kind 1", Check.state(x, false, 1), "2 33 0 0");
    }

    private static void limitGoesByTheLatestRun() {
        LineGolomb x = new LineGolomb(8, 0, 26);
        // Without a run the limit is 25: 16 bits 0 at most.
        writes(x, 0, 31, "0".repeat(15) + "1" + "10");
        x.clear();
        writes(x, 0, 32, "0".repeat(16) + "1" + "00111111");
        x.clear();
        // A run that steps up to 31 and falls to 30: by its width of 15, not of 14, 1 bit 0 is the most.
        x.run(65535, false);
        Check.same("step", x.step(false), 30);
        writes(x, 0, -2, "1" + "11");
        x.clear();
        x.run(65535, false);
        writes(x, 0, 2, "01" + "00000011");
        // A run to the end counts as well: at step 4 it is 1 wide, and 15 bits 0 are the most.
        x.clear();
        x.run(4, true);
        writes(x, 0, 30, "0".repeat(15) + "1" + "00111011");
        x.clear();
        writes(x, 0, 30, "0".repeat(15) + "1" + "00");
    }

    private static void limitWhenReadingGoesByTheLatestRunRead() {
        LineGolomb x = new LineGolomb(8, 0, 26);
        x.run(65535, true);
        Check.same("step", x.step(false), 31);
        int from = x.size();
        x.interrupt(0, 100);
        Check.same("width 15", Check.written(x, from), "01" + "11000111");
        int second = x.size();
        x.run(32768, false);
        Check.same("step", x.step(false), 30);
        int third = x.size();
        // k is 6 now: 128 is 2 bits 0, but 1 is the most, by the width before the step fell.
        writes(x, 0, 64, "01" + "01111111");
        Check.same("pass", x.pass(0, 1000), x.size());
        Check.same("readRun", x.readRun(65535), 65535);
        Check.same("readInterrupt", x.readInterrupt(0), 100);
        Check.same("waiting", x.waiting(), x.size() - second);
        Check.same("readRun", x.readRun(40000), 32768);
        Check.same("waiting", x.waiting(), x.size() - third);
        Check.same("readInterrupt", x.readInterrupt(0), 64);
        Check.same("waiting", x.waiting(), 0);
    }

    private static void wrongEndsAreRefused() {
        LineGolomb x = new LineGolomb(8, 0, 32);
        x.interrupt(0, 7);
        String before = Check.seen(x);
        for (int kind : new int[] {-1, 2, Integer.MIN_VALUE, Integer.MAX_VALUE}) {
            Check.outOfBounds("kind " + kind, () -> x.interrupt(kind, 1));
            Check.outOfBounds("both wrong", () -> x.interrupt(kind, 1000));
            Check.outOfBounds("read kind " + kind, () -> x.readInterrupt(kind));
        }
        for (int error : new int[] {129, -129, Integer.MIN_VALUE, Integer.MAX_VALUE}) {
            Check.illegal("error " + error, () -> x.interrupt(0, error));
            Check.illegal("error " + error, () -> x.interrupt(1, error));
        }
        Check.illegal("0 of kind 1", () -> x.interrupt(1, 0));
        Check.same("nothing changed", Check.seen(x), before);
        Check.same("0 of kind 0", Check.outcome(() -> x.interrupt(0, 0)), 4);
        // Half of the span, downward.
        LineGolomb three = new LineGolomb(3, 2, 0);
        Check.same("span", three.told(3), 3);
        Check.illegal("2 of 3", () -> three.interrupt(0, 2));
        Check.illegal("-2 of 3", () -> three.interrupt(1, -2));
    }

    private static void noMoreThanTheRowHolds() {
        LineGolomb x = new LineGolomb(16, 0, 200);
        Check.fillTo(x, 5989);
        String before = Check.seen(x);
        Check.unsupported("12 bits", () -> x.interrupt(0, 512));
        Check.illegal("both wrong", () -> x.interrupt(1, 0));
        Check.outOfBounds("all wrong", () -> x.interrupt(2, 65536));
        Check.same("nothing changed", Check.seen(x), before);
        Check.same("11 bits", x.interrupt(0, 511), 11);
        Check.same("size", x.size(), 6000);
        before = Check.seen(x);
        Check.unsupported("at the end", () -> x.interrupt(1, 1));
        Check.same("nothing changed", Check.seen(x), before);
    }

    private static void unfinishedEndsWait() {
        LineGolomb x = new LineGolomb(8, 0, 26);
        String whole = "0".repeat(16) + "1" + "00111111";
        for (int i = 0; i < whole.length(); i++) {
            Check.same("bit " + i + " is missing", x.readInterrupt(0), LineGolomb.NO_ERROR);
            Check.same("waiting", x.waiting(), i);
            Check.same("state", Check.state(x, true, 0), "4 1 0 2");
            Check.feed(x, whole.substring(i, i + 1));
        }
        Check.same("all there", x.readInterrupt(0), 32);
        Check.same("state", Check.state(x, true, 0), "36 2 0 5");
        Check.same("the other side", Check.state(x, false, 0), "4 1 0 2");
    }

    private static void endsThatAreNone() {
        LineGolomb x = new LineGolomb(8, 0, 26);
        String states = Check.state(x, true, 0) + Check.state(x, true, 1);
        Check.feed(x, "0".repeat(17) + "01");
        Check.same("too many bits 0", x.readInterrupt(0), LineGolomb.NO_ERROR);
        Check.same("one more than may be went", x.waiting(), 2);
        Check.same("a number is next", x.read(0), 1);
        LineGolomb y = new LineGolomb(3, 2, 0);
        // The span is 3, k is 1: 3 would be -2, and 4 would be 2, but 1 is the farthest.
        Check.feed(y, "011" + "0010" + "010" + "1");
        Check.same("-2", y.readInterrupt(0), LineGolomb.NO_ERROR);
        Check.same("its bits went", y.waiting(), 8);
        Check.same("2", y.readInterrupt(0), LineGolomb.NO_ERROR);
        Check.same("its bits went", y.waiting(), 4);
        Check.same("no state changed", Check.state(y, true, 0), "2 1 0 1");
        Check.same("1", y.readInterrupt(0), 1);
        Check.same("that is one", Check.state(y, true, 0), "3 2 0 1");
        Check.same("no state changed", Check.state(x, true, 0) + Check.state(x, true, 1), states);
        LineGolomb z = new LineGolomb(3, 2, 0);
        Check.feed(z, "10" + "010");
        Check.same("0 in kind 1 is -1", z.readInterrupt(1), -1);
        // k is 1, T being 2 and 1: 2 and the kind would be -2.
        Check.same("too far", z.readInterrupt(1), LineGolomb.NO_ERROR);
        Check.same("its bits went", z.waiting(), 0);
        // A run that is none leaves the limit: 16 bits 0 stay what may be.
        LineGolomb w = new LineGolomb(8, 0, 26);
        Check.feed(w, "111111" + "0" + "1" + "0".repeat(16) + "1" + "00111111");
        Check.same("no run", w.readRun(9), LineGolomb.NO_CODE);
        Check.same("as without a run", w.readInterrupt(0), 32);
    }

    private static void wrongStatesAreRefused() {
        LineGolomb x = new LineGolomb(8, 0, 32);
        for (int wrong : new int[] {-1, 4, Integer.MIN_VALUE, Integer.MAX_VALUE}) {
            Check.outOfBounds("kind " + wrong, () -> x.state(false, wrong, 0));
            Check.outOfBounds("both " + wrong, () -> x.state(true, wrong, wrong));
            Check.illegal("what " + wrong, () -> x.state(true, 0, wrong));
            Check.illegal("what " + wrong, () -> x.state(false, 1, wrong));
        }
        Check.outOfBounds("kind 2", () -> x.state(false, 2, 0));
    }

    private static void readsWhatWasWritten() {
        int[][] made = {{8, 0, 32}, {16, 0, 0}, {2, 1, 0}, {5, 0, 200}, {12, 2, 60}, {3, 2, 0}};
        for (int[] with : made) {
            LineGolomb x = new LineGolomb(with[0], with[1], with[2]);
            int farthest = x.told(3) / 2;
            for (int n = 0; n < 80; n++) {
                int kind = n % 3 == 0 ? 1 : 0;
                int error = n * 7919 % (2 * farthest + 1) - farthest;
                if (kind == 1 && error == 0) {
                    error = farthest;
                }
                int from = x.size();
                int length = x.interrupt(kind, error);
                Check.same("pass", x.pass(from, length), length);
                Check.same("readInterrupt " + kind + " " + error, x.readInterrupt(kind), error);
            }
            for (int kind = 0; kind < 2; kind++) {
                Check.same("states", Check.state(x, true, kind), Check.state(x, false, kind));
            }
        }
    }
}
