/** Terms and promises 1 and 18: the bounds of what an object is made with, and what it is at first. */
public final class BoundsOfMakingTest {
    private static final int LEAST = Integer.MIN_VALUE, MOST = Integer.MAX_VALUE;
    private static final int BITS = 0, NEAR = 1, LIMIT = 2, SPAN = 3, Q = 4;

    public static void main(String[] args) {
        bitsHaveTwoBounds();
        nearHasTwoBounds();
        spanIsTakenDownward();
        qIsTheLeast();
        limitHasTwoBounds();
        bitsFirstThenNearThenLimit();
        anotherWhatIsNotTold();
        nothingIsThereAtFirst();
        sumIsTheGreaterOneAtFirst();
        Check.end("BoundsOfMakingTest");
    }

    private static void told(int what, int due, int bits, int near, int limit) {
        String text = "told " + what + " of " + bits + " " + near + " " + limit;
        Check.same(text, new LineGolomb(bits, near, limit).told(what), due);
    }

    /** "SAMPLES have BITS, 2 .. 16" */
    private static void bitsHaveTwoBounds() {
        for (int bits = 2; bits <= 16; bits++) {
            told(BITS, bits, bits, 0, 50);
        }
        for (int below : new int[] {1, 0, -1, -2, -16, LEAST}) {
            told(BITS, 2, below, 0, 50);
        }
        for (int above : new int[] {17, 18, 32, 33, 34, MOST}) {
            told(BITS, 16, above, 0, 50);
        }
    }

    /** "NEAR is 0 .. 255, and at most half (downward) of 2^BITS - 1" */
    private static void nearHasTwoBounds() {
        int[] most = {1, 3, 7, 15, 31, 63, 127, 255, 255, 255, 255, 255, 255, 255, 255};
        for (int bits = 2; bits <= 16; bits++) {
            int top = most[bits - 2];
            for (int near : new int[] {0, 1, top - 1, top}) {
                told(NEAR, near, bits, near, 50);
            }
            for (int above : new int[] {top + 1, 2 * top + 1, MOST}) {
                told(NEAR, top, bits, above, 50);
            }
            for (int below : new int[] {-1, -top, LEAST}) {
                told(NEAR, 0, bits, below, 50);
            }
        }
    }

    /** "The SPAN is (2^BITS - 1 + 2 NEAR) / (2 NEAR + 1), downward, and 1" */
    private static void spanIsTakenDownward() {
        told(SPAN, 4, 2, 0, 50);
        told(SPAN, 2, 2, 1, 50);
        told(SPAN, 65536, 16, 0, 50);
        told(SPAN, 130, 16, 255, 50);
        // 381 / 127 is just 3; 383 / 129 is a little less, and 379 / 125 a little more.
        told(SPAN, 4, 8, 63, 50);
        told(SPAN, 3, 8, 64, 50);
        told(SPAN, 4, 8, 62, 50);
        told(SPAN, 86, 8, 1, 50);
        told(SPAN, 52, 8, 2, 50);
    }

    /** "Q is the least number of which 2^Q is not below the span" */
    private static void qIsTheLeast() {
        // Bits, near, the span that they make, Q: spans that are a power of 2, one less, and one more.
        int[][] made = {
            {2, 1, 2, 1}, {3, 2, 3, 2}, {2, 0, 4, 2}, {5, 4, 5, 3}, {6, 5, 7, 3}, {3, 0, 8, 3}, {7, 8, 9, 4},
            {8, 9, 15, 4}, {4, 0, 16, 4}, {9, 16, 17, 5}, {10, 17, 31, 5}, {5, 0, 32, 5}, {11, 32, 33, 6},
            {12, 33, 63, 6}, {6, 0, 64, 6}, {13, 64, 65, 7}, {14, 65, 127, 7}, {7, 0, 128, 7}, {15, 128, 129, 8},
            {16, 129, 255, 8}, {8, 0, 256, 8}, {9, 0, 512, 9}, {10, 0, 1024, 10}, {11, 0, 2048, 11},
            {12, 0, 4096, 12}, {13, 0, 8192, 13}, {14, 0, 16384, 14}, {15, 0, 32768, 15}, {16, 0, 65536, 16}};
        for (int[] with : made) {
            told(SPAN, with[2], with[0], with[1], 50);
            told(Q, with[3], with[0], with[1], 50);
        }
    }

    /** "LIMIT is Q + 18 .. 200" */
    private static void limitHasTwoBounds() {
        // Bits, near, Q + 18.
        int[][] made = {{2, 1, 19}, {2, 0, 20}, {8, 0, 26}, {8, 1, 25}, {15, 128, 26}, {7, 0, 25}, {16, 0, 34}};
        for (int[] with : made) {
            int least = with[2];
            for (int limit : new int[] {least, least + 1, 100, 199, 200}) {
                told(LIMIT, limit, with[0], with[1], limit);
            }
            for (int below : new int[] {least - 1, 1, 0, -1, LEAST}) {
                told(LIMIT, least, with[0], with[1], below);
            }
            for (int above : new int[] {201, 255, MOST}) {
                told(LIMIT, 200, with[0], with[1], above);
            }
        }
    }

    /** "What the object is made with is taken as the nearest of these (bits first, then near, then the limit)" */
    private static void bitsFirstThenNearThenLimit() {
        // NEAR goes by the bits that were taken: 2 of them, and 16.
        told(NEAR, 1, 1, 5, 50);
        told(NEAR, 1, LEAST, MOST, 50);
        told(NEAR, 255, MOST, MOST, 50);
        told(SPAN, 2, 0, 3, 50);
        // The limit goes by the Q of the near that was taken: 127, and 0.
        told(LIMIT, 19, 8, 1000, 0);
        told(LIMIT, 26, 8, -1000, 0);
        told(LIMIT, 19, -7, 9, -5);
        told(LIMIT, 26, 99, 999, -5);
    }

    /** "NO_CODE for another what" */
    private static void anotherWhatIsNotTold() {
        LineGolomb x = new LineGolomb(12, 2, 48);
        Check.same("the first", x.told(0), 12);
        Check.same("the last", x.told(4), 10);
        for (int what : new int[] {-1, 5, -2, 6, LEAST, MOST}) {
            Check.same("told " + what, x.told(what), -2);
            new Twins(8, 0, 26).unchanged("told " + what, y -> y.run(9, false), y -> y.told(what));
        }
    }

    /** "Each side has a step, at first 0", "a COUNT, at first 1; and NEGATIVES, at first 0", "false before one was" */
    private static void nothingIsThereAtFirst() {
        for (int bits = 2; bits <= 16; bits++) {
            LineGolomb x = new LineGolomb(bits, 0, 50);
            Check.same("size", x.size(), 0);
            Check.same("waiting", x.waiting(), 0);
            Check.same("was ended", x.wasEnded(), false);
            for (int side = 0; side < 2; side++) {
                Check.same("step", x.step(side == 0), 0);
                for (int kind = 0; kind < 2; kind++) {
                    Check.same("count", x.state(side == 0, kind, 1), 1);
                    Check.same("negatives", x.state(side == 0, kind, 2), 0);
                }
            }
        }
    }

    /** "a SUM, at first the greater one of 2 and (span + 32) / 64, downward" */
    private static void sumIsTheGreaterOneAtFirst() {
        // Bits, near, the span that they make, the sum.
        int[][] made = {
            {2, 1, 2, 2}, {5, 0, 32, 2}, {7, 0, 128, 2}, {11, 6, 159, 2}, {15, 103, 160, 3}, {13, 18, 223, 3},
            {15, 73, 224, 4}, {8, 0, 256, 4}, {9, 0, 512, 8}, {12, 2, 820, 13}, {16, 0, 65536, 1024}};
        for (int[] with : made) {
            LineGolomb x = new LineGolomb(with[0], with[1], 50);
            Check.same("span", x.told(SPAN), with[2]);
            for (int n = 0; n < 4; n++) {
                Check.same("sum for span " + with[2], x.state(n < 2, n % 2, 0), with[3]);
            }
        }
    }
}
