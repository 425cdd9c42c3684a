/** Promises 1 and 18: what an object is made with, and what it tells of that. */
public final class NewObjectTest {
    public static void main(String[] args) {
        made(8, 0, 32, "8 0 32 256 8");
        made(16, 0, 64, "16 0 64 65536 16");
        made(12, 2, 48, "12 2 48 820 10");
        bitsAreTakenAsTheNearest();
        nearIsTakenAsTheNearest();
        limitIsTakenAsTheNearest();
        firstStates();
        othersAreNotTold();
        eachObjectHasItsOwn();
        Check.end("NewObjectTest");
    }

    private static void made(int bits, int near, int limit, String due) {
        LineGolomb x = new LineGolomb(bits, near, limit);
        String got = x.told(0) + " " + x.told(1) + " " + x.told(2) + " " + x.told(3) + " " + x.told(4);
        Check.same("new " + bits + " " + near + " " + limit, got, due);
    }

    private static void bitsAreTakenAsTheNearest() {
        made(2, 0, 50, "2 0 50 4 2");
        made(1, 0, 50, "2 0 50 4 2");
        made(Integer.MIN_VALUE, 0, 50, "2 0 50 4 2");
        made(17, 0, 50, "16 0 50 65536 16");
        made(Integer.MAX_VALUE, 0, 50, "16 0 50 65536 16");
    }

    private static void nearIsTakenAsTheNearest() {
        made(8, -1, 50, "8 0 50 256 8");
        made(8, Integer.MIN_VALUE, 50, "8 0 50 256 8");
        // Half of 255, downward, is less than 255.
        made(8, 127, 50, "8 127 50 2 1");
        made(8, 128, 50, "8 127 50 2 1");
        made(9, 255, 50, "9 255 50 2 1");
        made(9, 256, 50, "9 255 50 2 1");
        made(2, 1, 50, "2 1 50 2 1");
        made(2, 2, 50, "2 1 50 2 1");
        made(16, Integer.MAX_VALUE, 50, "16 255 50 130 8");
        // NEAR goes by the BITS that were taken, not by those that were given.
        made(0, 3, 50, "2 1 50 2 1");
    }

    private static void limitIsTakenAsTheNearest() {
        made(8, 0, 25, "8 0 26 256 8");
        made(8, 0, 26, "8 0 26 256 8");
        made(8, 0, 200, "8 0 200 256 8");
        made(8, 0, 201, "8 0 200 256 8");
        made(8, 0, Integer.MIN_VALUE, "8 0 26 256 8");
        made(8, 0, Integer.MAX_VALUE, "8 0 200 256 8");
        made(16, 0, 1, "16 0 34 65536 16");
        made(2, 9, -5, "2 1 19 2 1");
        // Q is the least with 2^Q not below the span: 86 needs 7, 52 needs 6.
        made(8, 1, 0, "8 1 25 86 7");
        made(8, 2, 0, "8 2 24 52 6");
    }

    private static void firstStates() {
        String small = "0 0 false | 0 2 1 0 1 2 1 0 1 | 0 2 1 0 1 2 1 0 1";
        Check.same("span 4", Check.seen(new LineGolomb(2, 0, 0)), small);
        String middle = "0 0 false | 0 4 1 0 2 4 1 0 2 | 0 4 1 0 2 4 1 0 2";
        Check.same("span 256", Check.seen(new LineGolomb(8, 0, 0)), middle);
        String large = "0 0 false | 0 1024 1 0 10 1024 1 0 10 | 0 1024 1 0 10 1024 1 0 10";
        Check.same("span 65536", Check.seen(new LineGolomb(16, 0, 0)), large);
        // (820 + 32) / 64 is 13, downward.
        String odd = "0 0 false | 0 13 1 0 4 13 1 0 4 | 0 13 1 0 4 13 1 0 4";
        Check.same("span 820", Check.seen(new LineGolomb(12, 2, 0)), odd);
    }

    private static void othersAreNotTold() {
        LineGolomb x = new LineGolomb(8, 0, 32);
        for (int what : new int[] {-1, 5, 6, Integer.MIN_VALUE, Integer.MAX_VALUE}) {
            Check.same("told " + what, x.told(what), LineGolomb.NO_CODE);
        }
    }

    /** What one object does is not seen in others, made before it or after it. */
    private static void eachObjectHasItsOwn() {
        String first = "0 0 false | 0 4 1 0 2 4 1 0 2 | 0 4 1 0 2 4 1 0 2";
        LineGolomb before = new LineGolomb(8, 0, 32);
        LineGolomb x = new LineGolomb(8, 0, 32);
        x.run(9, false);
        x.interrupt(0, -4);
        x.interrupt(1, 7);
        x.pass(0, 12);
        x.readRun(100);
        x.readInterrupt(0);
        x.feed(1);
        String used = Check.seen(x);
        Check.same("made before", Check.seen(before), first);
        LineGolomb after = new LineGolomb(12, 2, 48);
        Check.same("made after", Check.seen(after), "0 0 false | 0 13 1 0 4 13 1 0 4 | 0 13 1 0 4 13 1 0 4");
        before.code(0, 256);
        after.run(700, true);
        before.clear();
        Check.same("as it was", Check.seen(x), used);
        Check.same("its bits", Check.written(x, 0), "11111101" + "0111" + "000101");
        Check.same("what it was made with", x.told(0) + " " + x.told(3), "8 256");
    }
}
