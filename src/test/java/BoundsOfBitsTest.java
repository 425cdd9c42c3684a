/** Terms and promises 5, 6, 7, 8 and 13: the bounds of the bits that were written, and of those that wait. */
public final class BoundsOfBitsTest {
    private static final int LEAST = Integer.MIN_VALUE, MOST = Integer.MAX_VALUE;
    private static final String OUT = "IndexOutOfBoundsException", ILLEGAL = "IllegalArgumentException";
    private static final Twins TWINS = new Twins(8, 0, 26);

    public static void main(String[] args) {
        bitsOfNone();
        firstAndLastBit();
        bitsOfAFullRow();
        sizeGrowsByWhatIsWritten();
        bitIs0Or1();
        thousandWaitAndNoMore();
        aWrongBitIsOneAlsoWithoutRoom();
        passStartsAtABitOrBehindTheLast();
        passOfAFullRow();
        passTakesNoFewerThanNone();
        passTakesAsManyAsThereAre();
        passTakesAsManyAsThereIsRoomFor();
        bitsKeepTheirOrderAroundTheEnd();
        theLastOfManyCalls();
        Check.end("BoundsOfBitsTest");
    }

    private static void some(LineGolomb x) {
        x.code(2, 13);
        x.run(1, false);
        x.interrupt(0, 0);
        x.pass(0, 8);
    }

    /** "IndexOutOfBounds: there is no such bit": of none there is no first one */
    private static void bitsOfNone() {
        for (int i : new int[] {0, 1, -1, LEAST, MOST}) {
            TWINS.refused("bit " + i + " of none", OUT, x -> x.feed(1), x -> x.bitAt(i));
        }
    }

    /** "Written bit i", "IndexOutOfBounds: there is no such bit" */
    private static void firstAndLastBit() {
        LineGolomb x = new LineGolomb(8, 0, 26);
        some(x);
        String due = "000101" + "10" + "100";
        for (int i = 0; i < 11; i++) {
            Check.same("bit " + i, x.bitAt(i), due.charAt(i) - '0');
        }
        for (int i : new int[] {-1, 11, 12, 5999, 6000, LEAST, MOST}) {
            TWINS.refused("bit " + i, OUT, BoundsOfBitsTest::some, y -> y.bitAt(i));
        }
        TWINS.unchanged("the first bit", BoundsOfBitsTest::some, y -> y.bitAt(0));
        TWINS.unchanged("the last bit", BoundsOfBitsTest::some, y -> y.bitAt(10));
    }

    /** "more than 6000 bits would be written": the last of 6000 is bit 5999 */
    private static void bitsOfAFullRow() {
        LineGolomb x = new LineGolomb(8, 0, 200);
        Check.fillTo(x, 5999);
        Check.outOfBounds("not yet", () -> x.bitAt(5999));
        Check.same("the last one", x.code(0, 0), 1);
        Check.same("size", x.size(), 6000);
        Check.same("it is there", x.bitAt(5999), 1);
        Check.outOfBounds("no more", () -> x.bitAt(6000));
        LineGolomb y = new LineGolomb(8, 0, 200);
        Check.fillTo(y, 5999);
        Check.same("the last one is a 0", y.run(0, false), 1);
        Check.same("it is there", y.bitAt(5999), 0);
        Check.outOfBounds("no more", () -> y.bitAt(6000));
    }

    /** "How many bits were written": none at first, none by reading and feeding, and 6000 at most */
    private static void sizeGrowsByWhatIsWritten() {
        LineGolomb x = new LineGolomb(8, 0, 200);
        Check.same("at first", x.size(), 0);
        Check.feed(x, "100");
        x.readInterrupt(0);
        Check.same("by reading", x.size(), 0);
        x.run(0, true);
        Check.same("by a run in no bits", x.size(), 0);
        Check.fillTo(x, 6000);
        Check.unsupported("no room", () -> x.code(0, 0));
        Check.unsupported("no room", () -> x.run(0, false));
        Check.unsupported("no room", () -> x.interrupt(0, 0));
        Check.same("all of them", x.size(), 6000);
        x.pass(0, 1000);
        Check.same("by passing", x.size(), 6000);
    }

    /** "IllegalArgument: it is not 0 or 1" */
    private static void bitIs0Or1() {
        for (int bit : new int[] {-1, 2, 3, 256, 257, LEAST, LEAST + 1, MOST}) {
            TWINS.refused("feed " + bit, ILLEGAL, BoundsOfBitsTest::some, x -> x.feed(bit));
        }
        LineGolomb x = new LineGolomb(8, 0, 26);
        Check.same("0", x.feed(0), true);
        Check.same("1", x.feed(1), true);
        Check.same("both wait", x.waiting(), 2);
        Check.same("read", x.read(0), 1);
    }

    private static LineGolomb full() {
        LineGolomb x = new LineGolomb(9, 0, 27);
        writeTens(x);
        Check.same("all at once", x.pass(0, 1000), 1000);
        return x;
    }

    /** Bits that tell where they come from: there is a number of its own in each ten of them. */
    private static void writeTens(LineGolomb x) {
        for (int n = 0; n < 100; n++) {
            Check.same("ten bits", x.code(9, 511 - n), 10);
        }
    }

    /** "whether it does; not, if 1000 wait" */
    private static void thousandWaitAndNoMore() {
        LineGolomb x = new LineGolomb(9, 0, 27);
        writeTens(x);
        Check.same("one less", x.pass(0, 999), 999);
        Check.same("the last one", x.feed(1), true);
        Check.same("waiting", x.waiting(), 1000);
        Check.same("none of it is changed", x.read(9), 511);
        Check.same("room again", x.waiting(), 990);
        LineGolomb y = full();
        for (int bit = 0; bit < 2; bit++) {
            Check.same("not " + bit, y.feed(bit), false);
            Check.same("waiting", y.waiting(), 1000);
        }
        for (int n = 0; n < 100; n++) {
            Check.same("all as they were", y.read(9), 511 - n);
        }
        Check.same("waiting", y.waiting(), 0);
        Check.same("room", y.feed(1), true);
        for (int bit = 0; bit < 2; bit++) {
            int one = bit;
            new Twins(9, 0, 27).unchanged("feed without room", BoundsOfBitsTest::fill, z -> Check.same("feed", z.feed(one), false));
        }
    }

    private static void fill(LineGolomb x) {
        x.code(0, 512);
        for (int n = 0; n < 39; n++) {
            x.pass(0, 26);
        }
        Check.same("waiting", x.waiting(), 1000);
    }

    /** "IllegalArgument: it is not 0 or 1", before "not, if 1000 wait" */
    private static void aWrongBitIsOneAlsoWithoutRoom() {
        for (int bit : new int[] {-1, 2, MOST}) {
            new Twins(9, 0, 27).refused("feed " + bit + " without room", ILLEGAL, BoundsOfBitsTest::fill, x -> x.feed(bit));
        }
    }

    /** "IndexOutOfBounds: there is no bit i, and i is not their number" */
    private static void passStartsAtABitOrBehindTheLast() {
        LineGolomb x = new LineGolomb(8, 0, 26);
        Check.same("none of none", x.pass(0, 5), 0);
        Check.outOfBounds("behind none", () -> x.pass(1, 0));
        some(x);
        Check.same("the first", x.pass(0, 1), 1);
        Check.same("the last", x.pass(10, 1), 1);
        Check.same("behind the last", x.pass(11, 1), 0);
        Check.same("waiting", x.waiting(), 10);
        for (int i : new int[] {-1, 12, 13, 6000, LEAST, MOST}) {
            for (int many : new int[] {0, 1, MOST}) {
                TWINS.refused("pass " + i + " " + many, OUT, BoundsOfBitsTest::some, y -> y.pass(i, many));
            }
        }
        TWINS.unchanged("pass from behind the last", BoundsOfBitsTest::some, y -> Check.same("none", y.pass(11, 5), 0));
    }

    /** The same, where 6000 bits were written. */
    private static void passOfAFullRow() {
        LineGolomb x = new LineGolomb(8, 0, 200);
        Check.fillTo(x, 6000);
        Check.same("the last", x.pass(5999, 5), 1);
        Check.same("behind the last", x.pass(6000, 5), 0);
        Check.outOfBounds("farther", () -> x.pass(6001, 0));
        Check.same("up to the last", x.pass(5100, MOST), 900);
        Check.same("waiting", x.waiting(), 901);
    }

    /** "IllegalArgument: the number is below 0" */
    private static void passTakesNoFewerThanNone() {
        for (int many : new int[] {-1, -2, LEAST}) {
            TWINS.refused("pass 0 " + many, ILLEGAL, BoundsOfBitsTest::some, x -> x.pass(0, many));
            TWINS.refused("pass 11 " + many, ILLEGAL, BoundsOfBitsTest::some, x -> x.pass(11, many));
            TWINS.refused("pass of none " + many, ILLEGAL, x -> x.feed(1), x -> x.pass(0, many));
            new Twins(9, 0, 27).refused("pass without room " + many, ILLEGAL, BoundsOfBitsTest::fill, x -> x.pass(0, many));
        }
        TWINS.unchanged("pass 0 0", BoundsOfBitsTest::some, x -> Check.same("none", x.pass(0, 0), 0));
        TWINS.unchanged("pass 11 0", BoundsOfBitsTest::some, x -> Check.same("none", x.pass(11, 0), 0));
    }

    /** "So many written bits, from bit i on, are fed, as long as there are such" */
    private static void passTakesAsManyAsThereAre() {
        for (int i = 0; i <= 11; i++) {
            for (int many : new int[] {0, 1, 10 - i, 11 - i, 12 - i, 1000, MOST - 1, MOST}) {
                if (many >= 0) {
                    LineGolomb x = new LineGolomb(8, 0, 26);
                    some(x);
                    int due = Math.min(many, 11 - i);
                    Check.same("pass " + i + " " + many, x.pass(i, many), due);
                    Check.same("waiting", x.waiting(), 8 + due);
                }
            }
        }
        passedBitsAreThese(0, 11, "000101" + "10" + "100");
        passedBitsAreThese(3, 8, "101" + "10" + "100");
        passedBitsAreThese(5, 5, "1" + "10" + "10");
        passedBitsAreThese(5, 100, "1" + "10" + "100");
    }

    private static void passedBitsAreThese(int i, int many, String bits) {
        TWINS.alike("pass " + i + " " + many, x -> {
            some(x);
            Check.same("passed", x.pass(i, many), bits.length());
        }, x -> {
            some(x);
            Check.feed(x, bits);
        });
    }

    /** "as long as there are such, and room: how many were" */
    private static void passTakesAsManyAsThereIsRoomFor() {
        for (int room = 0; room <= 12; room++) {
            for (int many : new int[] {9, 10, 11, MOST}) {
                LineGolomb x = new LineGolomb(9, 0, 27);
                writeTens(x);
                x.pass(0, 1000 - room);
                int due = Math.min(many, room);
                Check.same("room " + room + ", pass " + many, x.pass(500, many), due);
                Check.same("waiting", x.waiting(), 1000 - room + due);
            }
        }
        LineGolomb y = new LineGolomb(9, 0, 27);
        writeTens(y);
        Check.same("all but twenty", y.pass(0, 980), 980);
        Check.same("the first two that come", y.pass(500, 100), 20);
        Check.same("no room", y.pass(500, 100), 0);
        for (int n = 0; n < 100; n++) {
            Check.same("number " + n, y.read(9), n < 98 ? 511 - n : 511 - 50 - (n - 98));
        }
        new Twins(9, 0, 27).unchanged("pass without room", BoundsOfBitsTest::fill, x -> Check.same("none", x.pass(0, 5), 0));
    }

    /** Bits wait in their order also where some of the 1000 went and others came. */
    private static void bitsKeepTheirOrderAroundTheEnd() {
        for (int gone = 1; gone < 100; gone += 14) {
            LineGolomb x = full();
            for (int n = 0; n < gone; n++) {
                Check.same("first", x.read(9), 511 - n);
            }
            Check.same("as many come", x.pass(0, 1000), 10 * gone);
            Check.same("no more", x.feed(1), false);
            for (int n = gone; n < 100 + gone; n++) {
                Check.same("in their order", x.read(9), 511 - n % 100);
            }
            Check.same("none waits", x.waiting(), 0);
            Check.same("nothing is read", x.read(0), LineGolomb.WAITS);
            Check.feed(x, "00101");
            Check.same("and then", x.read(2), 9);
        }
    }

    /** "An object is used for at most 512 calls": the last one of them still answers as it should */
    private static void theLastOfManyCalls() {
        LineGolomb x = new LineGolomb(8, 0, 26);
        int size = 0;
        for (int n = 1; n < 512; n++) {
            size += x.interrupt(n % 2, 1);
        }
        Check.same("the 512th call", x.size(), size);
        LineGolomb y = new LineGolomb(8, 0, 26);
        for (int n = 1; n < 511; n++) {
            y.feed(n % 2);
        }
        Check.same("the 511th call", y.read(0), 0);
        Check.same("the 512th call", y.waiting(), 509);
    }
}
