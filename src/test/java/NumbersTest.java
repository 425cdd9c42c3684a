/** Promises 2 and 9: numbers written and read. */
public final class NumbersTest {
    public static void main(String[] args) {
        plainNumbers();
        numbersAtTheLimit();
        wrongNumbersAreRefused();
        noMoreThanTheRowHolds();
        unfinishedNumbersWait();
        tooManyZeros();
        wrongReadsAreRefused();
        readsWhatWasWritten();
        Check.end("NumbersTest");
    }

    private static void writes(LineGolomb x, int k, int number, String due) {
        int from = x.size();
        Check.same("code " + k + " " + number, x.code(k, number), due.length());
        Check.same("bits of " + k + " " + number, Check.written(x, from), due);
    }

    private static void plainNumbers() {
        LineGolomb x = new LineGolomb(8, 0, 32);
        writes(x, 0, 0, "1");
        writes(x, 0, 3, "0001");
        writes(x, 2, 13, "000101");
        writes(x, 3, 0, "1000");
        writes(x, 8, 255, "111111111");
        writes(x, 8, 256, "0100000000");
        writes(x, 1, 7, "00011");
    }

    private static void numbersAtTheLimit() {
        LineGolomb x = new LineGolomb(8, 0, 32);
        String zeros = "0".repeat(23);
        writes(x, 0, 22, "0".repeat(22) + "1");
        writes(x, 0, 23, zeros + "1" + "00010110");
        writes(x, 0, 256, zeros + "1" + "11111111");
        writes(x, 1, 45, "0".repeat(22) + "1" + "1");
        writes(x, 1, 46, zeros + "1" + "00101101");
        LineGolomb least = new LineGolomb(16, 0, 0);
        writes(least, 0, 16, "0".repeat(16) + "1");
        writes(least, 0, 17, "0".repeat(17) + "1" + "0000000000010000");
        writes(least, 0, 65536, "0".repeat(17) + "1" + "1111111111111111");
        writes(least, 16, 65536, "01" + "0000000000000000");
    }

    private static void wrongNumbersAreRefused() {
        LineGolomb x = new LineGolomb(8, 0, 32);
        Check.illegal("k below", () -> x.code(-1, 0));
        Check.illegal("k above", () -> x.code(9, 0));
        Check.illegal("k far above", () -> x.code(Integer.MAX_VALUE, 0));
        Check.illegal("k far below", () -> x.code(Integer.MIN_VALUE, 0));
        Check.illegal("number below", () -> x.code(0, -1));
        Check.illegal("number above", () -> x.code(0, 257));
        Check.illegal("number far above", () -> x.code(8, Integer.MAX_VALUE));
        Check.illegal("number far below", () -> x.code(8, Integer.MIN_VALUE));
        Check.same("size after that", x.size(), 0);
        // The bound is 2^Q, not the span.
        LineGolomb y = new LineGolomb(16, 255, 0);
        Check.same("2^Q above the span", y.code(8, 256), 10);
        Check.illegal("above 2^Q", () -> y.code(8, 257));
    }

    private static void noMoreThanTheRowHolds() {
        LineGolomb x = new LineGolomb(16, 0, 200);
        Check.fillTo(x, 5990);
        String before = Check.seen(x);
        Check.unsupported("11 bits", () -> x.code(0, 10));
        Check.illegal("both wrong", () -> x.code(0, -1));
        Check.same("nothing changed", Check.seen(x), before);
        Check.same("10 bits", x.code(0, 9), 10);
        Check.same("size", x.size(), 6000);
        Check.unsupported("1 bit", () -> x.code(0, 0));
        Check.same("size still", x.size(), 6000);
        Check.same("the last one", x.bitAt(5999), 1);
    }

    private static void unfinishedNumbersWait() {
        LineGolomb x = new LineGolomb(8, 0, 32);
        Check.same("empty", x.read(0), LineGolomb.WAITS);
        String whole = "0".repeat(23) + "1" + "00010110";
        for (int i = 0; i < whole.length(); i++) {
            Check.same("bit " + i + " is missing", x.read(0), LineGolomb.WAITS);
            Check.same("waiting", x.waiting(), i);
            Check.feed(x, whole.substring(i, i + 1));
        }
        Check.same("all there", x.read(0), 23);
        Check.feed(x, "0110");
        Check.same("3 bits of k are missing", x.read(5), LineGolomb.WAITS);
        Check.same("waiting", x.waiting(), 4);
        Check.same("in a smaller k", x.read(2), 6);
        Check.same("waiting", x.waiting(), 0);
    }

    private static void tooManyZeros() {
        LineGolomb x = new LineGolomb(8, 0, 32);
        Check.feed(x, "0".repeat(23));
        Check.same("as many as may be", x.read(3), LineGolomb.WAITS);
        Check.feed(x, "0");
        Check.same("one more", x.read(3), LineGolomb.NO_CODE);
        Check.same("all of them went", x.waiting(), 0);
        Check.feed(x, "0".repeat(25) + "1");
        Check.same("two more", x.read(0), LineGolomb.NO_CODE);
        Check.same("one stays", x.waiting(), 2);
        Check.same("and is read", x.read(0), 1);
    }

    private static void wrongReadsAreRefused() {
        LineGolomb x = new LineGolomb(8, 0, 32);
        Check.feed(x, "1111111111");
        Check.illegal("k below", () -> x.read(-1));
        Check.illegal("k above", () -> x.read(9));
        Check.illegal("k far above", () -> x.read(Integer.MAX_VALUE));
        Check.illegal("k far below", () -> x.read(Integer.MIN_VALUE));
        Check.same("nothing went", x.waiting(), 10);
        Check.same("k is Q", x.read(8), 255);
        // What no code() writes is a number all the same.
        LineGolomb y = new LineGolomb(8, 0, 32);
        Check.feed(y, "0".repeat(22) + "1" + "11111111");
        Check.same("above 2^Q", y.read(8), 22 * 256 + 255);
        Check.feed(y, "0".repeat(23) + "1" + "00000000");
        Check.same("a small one at the limit", y.read(0), 1);
    }

    private static void readsWhatWasWritten() {
        int[][] made = {{8, 0, 32}, {16, 0, 0}, {2, 1, 0}, {5, 0, 200}, {12, 2, 60}};
        for (int[] with : made) {
            for (int k = 0; k <= new LineGolomb(with[0], with[1], with[2]).told(4); k++) {
                LineGolomb x = new LineGolomb(with[0], with[1], with[2]);
                int top = 1 << x.told(4);
                for (int n = 0; n <= 12; n++) {
                    int number = (int) ((long) top * n / 12);
                    int from = x.size();
                    int length = x.code(k, number);
                    Check.same("pass", x.pass(from, length), length);
                    Check.same("read " + k + " " + number, x.read(k), number);
                }
            }
        }
    }
}
