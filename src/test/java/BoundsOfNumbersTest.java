/** Terms and promises 2 and 9: the bounds of numbers, written and read. */
public final class BoundsOfNumbersTest {
    private static final int LEAST = Integer.MIN_VALUE, MOST = Integer.MAX_VALUE;
    private static final String ILLEGAL = "IllegalArgumentException", UNSUPPORTED = "UnsupportedOperationException";
    private static final int[][] MADE = {
        {2, 1, 0}, {2, 0, 200}, {5, 0, 0}, {8, 0, 0}, {8, 0, 32}, {8, 0, 200}, {15, 128, 27}, {16, 0, 0}, {16, 0, 200}};

    public static void main(String[] args) {
        zerosGrowWithEach2ToTheK();
        theOtherFormBegins();
        theOtherFormHasOneLess();
        limitIsTheSameBehindARun();
        kHasTwoBounds();
        numberHasTwoBounds();
        rowHasRoomForJustThat();
        wrongNumbersChangeNothing();
        numbersThatAreNotAllThere();
        theOtherFormReadsOneMore();
        moreZerosThanThereMayBe();
        readKHasTwoBounds();
        wrongReadsChangeNothing();
        Check.end("BoundsOfNumbersTest");
    }

    private static LineGolomb make(int[] with) {
        return new LineGolomb(with[0], with[1], with[2]);
    }

    private static void bothWays(int[] with, int k, int number, String due) {
        LineGolomb x = make(with);
        String what = with[0] + " " + with[1] + " " + with[2] + ": " + k + " " + number;
        Check.same("code " + what, x.code(k, number), due.length());
        Check.same("bits " + what, Check.written(x, 0), due);
        x.pass(0, due.length());
        Check.same("read " + what, x.read(k), number);
        Check.same("waiting " + what, x.waiting(), 0);
    }

    /** "M is written as M / 2^k, downward, bits 0, then a 1, then the lowest k bits of M, the highest first" */
    private static void zerosGrowWithEach2ToTheK() {
        for (int[] with : MADE) {
            int q = make(with).told(4);
            for (int k = 0; k <= q; k++) {
                bothWays(with, k, 0, "1" + "0".repeat(k));
                bothWays(with, k, (1 << k) - 1, "1" + "1".repeat(k));
                bothWays(with, k, 1 << k, "01" + "0".repeat(k));
                if (k < q) {
                    bothWays(with, k, (2 << k) - 1, "01" + "1".repeat(k));
                    bothWays(with, k, 2 << k, "001" + "0".repeat(k));
                }
            }
        }
        bothWays(new int[] {8, 0, 32}, 4, 0b0001_1000, "01" + "1000");
        bothWays(new int[] {8, 0, 32}, 4, 0b0010_0001, "001" + "0001");
    }

    /** "but if there were to be L - Q - 1 bits 0 or more: as L - Q - 1 of them, a 1, then Q bits of M - 1" */
    private static void theOtherFormBegins() {
        for (int[] with : MADE) {
            LineGolomb x = make(with);
            int q = x.told(4);
            int most = x.told(2) - q - 1;
            int top = 1 << q;
            for (int k = 0; k <= q && (long) most << k <= top; k++) {
                int first = most << k;
                bothWays(with, k, first - 1, "0".repeat(most - 1) + "1" + "1".repeat(k));
                bothWays(with, k, first, "0".repeat(most) + "1" + Check.binary(first - 1, q));
                if (first < top) {
                    bothWays(with, k, first + 1, "0".repeat(most) + "1" + Check.binary(first, q));
                }
            }
        }
        // The least limit leaves 17 bits 0: for Q = 4 no number needs them, for Q = 5 the 17 does.
        bothWays(new int[] {4, 0, 0}, 0, 16, "0".repeat(16) + "1");
        bothWays(new int[] {5, 0, 0}, 0, 16, "0".repeat(16) + "1");
        bothWays(new int[] {5, 0, 0}, 0, 17, "0".repeat(17) + "1" + "10000");
        bothWays(new int[] {5, 0, 24}, 0, 17, "0".repeat(17) + "1");
        bothWays(new int[] {5, 0, 24}, 0, 18, "0".repeat(18) + "1" + "10001");
    }

    /** "then Q bits of M - 1, the highest first": so that 2^Q has room */
    private static void theOtherFormHasOneLess() {
        bothWays(new int[] {5, 0, 0}, 0, 32, "0".repeat(17) + "1" + "11111");
        bothWays(new int[] {8, 0, 0}, 0, 256, "0".repeat(17) + "1" + "11111111");
        bothWays(new int[] {8, 0, 0}, 0, 255, "0".repeat(17) + "1" + "11111110");
        bothWays(new int[] {8, 0, 200}, 0, 256, "0".repeat(191) + "1" + "11111111");
        bothWays(new int[] {16, 0, 0}, 0, 65536, "0".repeat(17) + "1" + "1".repeat(16));
        bothWays(new int[] {16, 0, 0}, 11, 65536, "0".repeat(17) + "1" + "1".repeat(16));
        bothWays(new int[] {16, 0, 0}, 12, 65536, "0".repeat(16) + "1" + "0".repeat(12));
    }

    /** "A number in k is written, with LIMIT": also behind a run, whose width shortens the limit of ends alone */
    private static void limitIsTheSameBehindARun() {
        LineGolomb x = new LineGolomb(8, 0, 26);
        String last = "0".repeat(16) + "1";
        String first = "0".repeat(17) + "1" + "00010000";
        x.run(65535, true);
        Check.same("the last plain one", x.code(0, 16), 17);
        Check.same("the first other one", x.code(0, 17), 26);
        Check.same("bits", Check.written(x, 32), last + first);
        x.pass(0, 1000);
        Check.same("a run", x.readRun(65535), 65535);
        Check.same("the last plain one", x.read(0), 16);
        Check.same("the first other one", x.read(0), 17);
        Check.same("all went", x.waiting(), 0);
    }

    /** "IllegalArgument: k is not 0 .. Q" */
    private static void kHasTwoBounds() {
        for (int[] with : MADE) {
            LineGolomb x = make(with);
            int q = x.told(4);
            Check.same("k = 0", x.code(0, 0), 1);
            Check.same("k = Q", x.code(q, 0), q + 1);
            for (int k : new int[] {-1, q + 1, 31, 32, 33, -32, LEAST, MOST}) {
                Check.illegal("k = " + k + ", Q = " + q, () -> x.code(k, 0));
            }
            Check.same("size", x.size(), q + 2);
        }
    }

    /** "IllegalArgument: .. or the number not 0 .. 2^Q" */
    private static void numberHasTwoBounds() {
        for (int[] with : MADE) {
            LineGolomb x = make(with);
            int q = x.told(4);
            int top = 1 << q;
            Check.same("0", x.code(q, 0), q + 1);
            Check.same("2^Q", x.code(q, top), q + 2);
            for (int number : new int[] {-1, top + 1, -top, 2 * top, LEAST, MOST}) {
                Check.illegal("number " + number + ", Q = " + q, () -> x.code(q, number));
                Check.illegal("number " + number + ", Q = " + q, () -> x.code(0, number));
            }
            Check.same("size", x.size(), 2 * q + 3);
        }
    }

    /** "UnsupportedOperation: more than 6000 bits would be written" */
    private static void rowHasRoomForJustThat() {
        // In the plain form, and in the other one, which takes 110 bits.
        int[][] codes = {{0, 0, 1}, {0, 99, 100}, {8, 255, 9}, {8, 256, 10}, {0, 101, 110}, {0, 256, 110}};
        for (int[] code : codes) {
            LineGolomb x = new LineGolomb(8, 0, 110);
            Check.fillTo(x, 6000 - code[2]);
            Check.same("just room", x.code(code[0], code[1]), code[2]);
            Check.same("size", x.size(), 6000);
            new Twins(8, 0, 110).refused("one bit too many", UNSUPPORTED,
                y -> Check.fillTo(y, 6001 - code[2]), y -> y.code(code[0], code[1]));
        }
        new Twins(8, 0, 110).refused("far too many", UNSUPPORTED, y -> Check.fillTo(y, 5970), y -> y.code(0, 256));
    }

    /** "A call that throws changes nothing": code() */
    private static void wrongNumbersChangeNothing() {
        Twins twins = new Twins(8, 0, 26);
        int[][] wrong = {{-1, 0}, {9, 0}, {LEAST, 3}, {MOST, 3}, {0, -1}, {0, 257}, {8, 257}, {4, LEAST}, {4, MOST}, {9, 257}};
        for (int[] code : wrong) {
            twins.refused("code " + code[0] + " " + code[1], ILLEGAL, BoundsOfNumbersTest::used, x -> x.code(code[0], code[1]));
        }
    }

    private static void used(LineGolomb x) {
        x.code(2, 13);
        x.run(9, false);
        x.interrupt(0, -3);
        x.pass(6, 100);
        x.readRun(20);
    }

    /** "WAITS, with nothing changed, if it is not all there" */
    private static void numbersThatAreNotAllThere() {
        waitsForAll(0, "1");
        waitsForAll(8, "1" + "10110100");
        waitsForAll(3, "0001" + "011");
        waitsForAll(3, "0".repeat(16) + "1" + "111");
        waitsForAll(0, "0".repeat(17) + "1" + "00010000");
        waitsForAll(8, "0".repeat(17) + "1" + "11111111");
    }

    private static void waitsForAll(int k, String whole) {
        Twins twins = new Twins(8, 0, 26);
        for (int n = 0; n < whole.length(); n++) {
            String part = whole.substring(0, n);
            twins.unchanged("read " + k + " of " + part, x -> {
                Check.feed(x, "1110");
                x.readRun(100);
                Check.feed(x, part);
            }, x -> Check.same("read " + k + " of " + part, x.read(k), LineGolomb.WAITS));
        }
        LineGolomb y = new LineGolomb(8, 0, 26);
        Check.feed(y, whole);
        Check.same("read " + k + " of " + whole, y.read(k) >= 0, true);
        Check.same("all went", y.waiting(), 0);
    }

    /** "then Q bits of M - 1", when they are read: from 1 to 2^Q */
    private static void theOtherFormReadsOneMore() {
        for (int[] with : MADE) {
            LineGolomb x = make(with);
            int q = x.told(4);
            String zeros = "0".repeat(x.told(2) - q - 1);
            Check.feed(x, zeros + "1" + "0".repeat(q));
            Check.same("the least", x.read(0), 1);
            Check.feed(x, zeros + "1" + "1".repeat(q));
            Check.same("the greatest", x.read(q), 1 << q);
            Check.same("waiting", x.waiting(), 0);
        }
    }

    /** "NO_CODE, if more bits 0 come than there may be: one more than these go" */
    private static void moreZerosThanThereMayBe() {
        for (int[] with : MADE) {
            int q = make(with).told(4);
            int most = make(with).told(2) - q - 1;
            for (int k = 0; k <= q; k += q) {
                LineGolomb x = make(with);
                Check.feed(x, "0".repeat(most));
                Check.same("as many as may be", x.read(k), LineGolomb.WAITS);
                Check.same("they stay", x.waiting(), most);
                x.feed(0);
                Check.same("one more", x.read(k), LineGolomb.NO_CODE);
                Check.same("they go", x.waiting(), 0);
            }
        }
        Twins twins = new Twins(8, 0, 26);
        for (String rest : new String[] {"", "1", "0", "0001101", "0".repeat(17), "0".repeat(18) + "1"}) {
            for (int k = 0; k <= 8; k++) {
                int in = k;
                twins.alike("18 bits 0, then " + rest, x -> {
                    Check.feed(x, "1110" + "0".repeat(18) + rest);
                    x.readRun(100);
                    Check.same("read " + in, x.read(in), LineGolomb.NO_CODE);
                }, x -> {
                    Check.feed(x, "1110" + rest);
                    x.readRun(100);
                });
            }
        }
    }

    /** "IllegalArgument: k is not 0 .. Q", when reading: also if nothing waits */
    private static void readKHasTwoBounds() {
        for (int[] with : MADE) {
            LineGolomb x = make(with);
            int q = x.told(4);
            for (int n = 0; n < 2; n++) {
                for (int k : new int[] {-1, q + 1, 31, 32, 33, -32, LEAST, MOST}) {
                    Check.illegal("read " + k + ", Q = " + q, () -> x.read(k));
                }
                Check.feed(x, "1".repeat(2 * q + 2 - x.waiting()));
            }
            Check.same("k = 0", x.read(0), 0);
            Check.same("k = Q", x.read(q), (1 << q) - 1);
            Check.same("waiting", x.waiting(), q);
        }
    }

    /** "A call that throws changes nothing": read() */
    private static void wrongReadsChangeNothing() {
        Twins twins = new Twins(8, 0, 26);
        for (int k : new int[] {-1, 9, LEAST, MOST}) {
            twins.refused("read " + k, ILLEGAL, BoundsOfNumbersTest::used, x -> x.read(k));
            twins.refused("read " + k + " of 18 bits 0", ILLEGAL, x -> Check.feed(x, "0".repeat(18)), x -> x.read(k));
        }
    }
}
