/** Promises 5, 6, 7, 8 and 13: written bits, fed bits, bits that wait. */
public final class BitsTest {
    public static void main(String[] args) {
        writtenBits();
        fedBits();
        fedBitsComeInTheirOrder();
        passedBits();
        passedAsLongAsThereIsRoom();
        wrongPassesAreRefused();
        Check.end("BitsTest");
    }

    private static void writtenBits() {
        LineGolomb x = new LineGolomb(8, 0, 32);
        Check.same("size at first", x.size(), 0);
        Check.outOfBounds("bit 0 of none", () -> x.bitAt(0));
        x.code(2, 13);
        x.run(1, false);
        x.interrupt(0, 0);
        Check.same("size", x.size(), 6 + 2 + 3);
        Check.same("bits", Check.written(x, 0), "000101" + "10" + "100");
        for (int i : new int[] {-1, 11, 12, 6000, Integer.MIN_VALUE, Integer.MAX_VALUE}) {
            Check.outOfBounds("bit " + i, () -> x.bitAt(i));
        }
        x.pass(0, 11);
        x.read(0);
        Check.same("size after reading", x.size(), 11);
        Check.same("bit 3", x.bitAt(3), 1);
    }

    private static void fedBits() {
        LineGolomb x = new LineGolomb(8, 0, 32);
        Check.same("waiting at first", x.waiting(), 0);
        for (int bit : new int[] {-1, 2, Integer.MIN_VALUE, Integer.MAX_VALUE}) {
            Check.illegal("feed " + bit, () -> x.feed(bit));
        }
        Check.same("waiting", x.waiting(), 0);
        Check.same("feed", x.feed(1), true);
        Check.same("waiting", x.waiting(), 1);
        Check.same("nothing is written by that", x.size(), 0);
        fillQueue(x, 999);
        Check.same("the last one", x.feed(0), true);
        Check.same("waiting", x.waiting(), 1000);
        Check.same("one more", x.feed(1), false);
        Check.illegal("a wrong one", () -> x.feed(2));
        Check.same("waiting", x.waiting(), 1000);
        Check.same("read", x.read(0), 0);
        Check.same("room again", x.feed(1), true);
        Check.same("and none again", x.feed(1), false);
        Check.same("waiting", x.waiting(), 1000);
    }

    /** Passes bits until so many wait; feeding them all one by one would take too many calls. */
    private static void fillQueue(LineGolomb x, int many) {
        for (int n = 0; n < 100; n++) {
            x.run(0, false);
        }
        for (int n = 0; n < 10; n++) {
            x.pass(0, many - x.waiting());
        }
        Check.same("waiting", x.waiting(), many);
    }

    private static void fedBitsComeInTheirOrder() {
        LineGolomb x = new LineGolomb(8, 0, 200);
        x.code(0, 99);
        int fed = 0;
        int numbers = 0;
        // Goes round more than once, with some left over each time.
        for (int n = 0; n < 45; n++) {
            fed += x.pass(0, 100);
            if (n > 3) {
                Check.same("read", x.read(0), 99);
                numbers++;
            }
            Check.same("waiting", x.waiting(), fed - 100 * numbers);
        }
        LineGolomb y = new LineGolomb(8, 0, 32);
        for (int n = 0; n < 7; n++) {
            Check.feed(y, "1" + "10110" + "01");
            Check.same("first", y.read(0), 0);
            Check.same("second", y.read(4), 6);
            Check.same("third", y.read(0), 1);
        }
    }

    private static void passedBits() {
        LineGolomb x = new LineGolomb(8, 0, 32);
        Check.same("none of none", x.pass(0, 5), 0);
        x.code(2, 13);
        x.code(0, 3);
        Check.same("one", x.pass(3, 1), 1);
        Check.same("waiting", x.waiting(), 1);
        Check.same("read", x.read(0), 0);
        Check.same("from the middle", x.pass(3, 5), 5);
        Check.same("read", x.read(2), 1);
        Check.same("waiting", x.waiting(), 2);
        Check.same("as many as there are", x.pass(6, 100), 4);
        Check.same("read", x.read(0), 5);
        Check.same("waiting", x.waiting(), 0);
        Check.same("none are asked for", x.pass(0, 0), 0);
        Check.same("from the end", x.pass(10, 7), 0);
        Check.same("most", x.pass(1, Integer.MAX_VALUE), 9);
        Check.same("waiting", x.waiting(), 9);
        Check.same("written bits stay", x.size(), 10);
    }

    private static void passedAsLongAsThereIsRoom() {
        LineGolomb x = new LineGolomb(8, 0, 32);
        fillQueue(x, 995);
        Check.same("room for 5", x.pass(0, 100), 5);
        Check.same("waiting", x.waiting(), 1000);
        Check.same("no room", x.pass(0, 100), 0);
        Check.same("waiting", x.waiting(), 1000);
    }

    private static void wrongPassesAreRefused() {
        LineGolomb x = new LineGolomb(8, 0, 32);
        x.code(0, 9);
        for (int i : new int[] {-1, 11, Integer.MIN_VALUE, Integer.MAX_VALUE}) {
            Check.outOfBounds("pass from " + i, () -> x.pass(i, 1));
            Check.outOfBounds("none from " + i, () -> x.pass(i, 0));
            Check.outOfBounds("both wrong", () -> x.pass(i, -1));
        }
        Check.illegal("fewer than none", () -> x.pass(0, -1));
        Check.illegal("far fewer than none", () -> x.pass(10, Integer.MIN_VALUE));
        Check.same("waiting", x.waiting(), 0);
    }
}
