/** Promise 19: all is as at first. */
public final class ClearTest {
    public static void main(String[] args) {
        LineGolomb fresh = new LineGolomb(8, 1, 27);
        String first = Check.seen(fresh);
        LineGolomb x = new LineGolomb(8, 1, 27);
        use(x);
        Check.same("used", Check.seen(x).equals(first), false);
        Check.same("was ended", x.wasEnded(), true);
        x.clear();
        Check.same("cleared", Check.seen(x), first);
        Check.same("told", x.told(0) + " " + x.told(1) + " " + x.told(2) + " " + x.told(3) + " " + x.told(4), "8 1 27 86 7");
        Check.outOfBounds("no bit", () -> x.bitAt(0));
        Check.same("nothing waits", x.read(0), LineGolomb.WAITS);
        endsHaveTheWholeLimit(x);
        x.clear();
        use(x);
        use(fresh);
        Check.same("used as a new one is", Check.seen(x), Check.seen(fresh));
        Check.same("bits as of a new one", Check.written(x, 0), Check.written(fresh, 0));
        Check.end("ClearTest");
    }

    private static void use(LineGolomb x) {
        x.run(500, false);
        x.interrupt(0, -40);
        x.interrupt(1, 3);
        x.code(3, 77);
        x.pass(0, 1000);
        x.readRun(1000);
        x.readInterrupt(0);
        x.readInterrupt(1);
    }

    /** The widths of the latest runs are forgotten on both sides: k is 1, and 18 bits 0 are the most. */
    private static void endsHaveTheWholeLimit(LineGolomb x) {
        x.interrupt(0, 17);
        Check.same("17 bits 0", Check.written(x, 0), "0".repeat(17) + "1" + "0");
        Check.same("pass", x.pass(0, 100), 19);
        Check.same("readInterrupt", x.readInterrupt(0), 17);
        x.clear();
        x.interrupt(0, 18);
        Check.same("18 bits 0", Check.written(x, 0), "0".repeat(18) + "1" + "0100011");
        Check.same("pass", x.pass(0, 100), 26);
        Check.same("readInterrupt", x.readInterrupt(0), 18);
    }
}
