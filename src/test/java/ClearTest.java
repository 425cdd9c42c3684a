/** Promise 19: all is as at first. */
public final class ClearTest {
    private static final Twins TWINS = new Twins(8, 1, 27);

    public static void main(String[] args) {
        whatIsToldStays();
        usedAsANewOne();
        nothingIsLeftOfIt();
        endsHaveTheWholeLimit();
        clearOfANewOne();
        clearOfAFullRow();
        clearWhen1000Wait();
        clearAtTheLastStep();
        clearAtACountOf64();
        clearOfEndedRuns();
        Check.end("ClearTest");
    }

    private static void use(LineGolomb x) {
        x.run(500, false);
        x.interrupt(0, -40);
        x.interrupt(1, 3);
        x.code(3, 77);
        x.pass(0, 1000);
        x.readRun(1000);
        x.readInterrupt(0);
        x.readInterrupt(1);
    }

    private static void whatIsToldStays() {
        LineGolomb x = new LineGolomb(8, 1, 27);
        use(x);
        x.clear();
        Check.same("told", x.told(0) + " " + x.told(1) + " " + x.told(2) + " " + x.told(3) + " " + x.told(4), "8 1 27 86 7");
    }

    private static void usedAsANewOne() {
        LineGolomb fresh = new LineGolomb(8, 1, 27);
        LineGolomb x = new LineGolomb(8, 1, 27);
        use(x);
        Check.same("used", Check.seen(x).equals(Check.seen(fresh)), false);
        Check.same("was ended", x.wasEnded(), true);
        x.clear();
        Check.same("cleared", Check.seen(x), Check.seen(fresh));
        use(x);
        use(fresh);
        Check.same("used as a new one is", Check.seen(x), Check.seen(fresh));
        Check.same("bits as of a new one", Check.written(x, 0), Check.written(fresh, 0));
    }

    private static void nothingIsLeftOfIt() {
        LineGolomb x = new LineGolomb(8, 1, 27);
        use(x);
        x.clear();
        Check.outOfBounds("no bit", () -> x.bitAt(0));
        Check.outOfBounds("no bit to pass", () -> x.pass(1, 0));
        Check.same("none passes", x.pass(0, 5), 0);
        Check.same("nothing waits", x.read(0), LineGolomb.WAITS);
    }

    /** The widths of the latest runs are forgotten on both sides: k is 1, and 18 bits 0 are the most. */
    private static void endsHaveTheWholeLimit() {
        LineGolomb x = new LineGolomb(8, 1, 27);
        use(x);
        x.clear();
        x.interrupt(0, 17);
        Check.same("17 bits 0", Check.written(x, 0), "0".repeat(17) + "1" + "0");
        Check.same("pass", x.pass(0, 100), 19);
        Check.same("readInterrupt", x.readInterrupt(0), 17);
        x.clear();
        x.interrupt(0, 18);
        Check.same("18 bits 0", Check.written(x, 0), "0".repeat(18) + "1" + "0100011");
        Check.same("pass", x.pass(0, 100), 26);
        Check.same("readInterrupt", x.readInterrupt(0), 18);
    }

    private static void asAtFirst(String what, Twins.Use use) {
        TWINS.alike(what, x -> {
            use.on(x);
            x.clear();
        }, x -> Check.same("a new one", x.size(), 0));
    }

    private static void clearOfANewOne() {
        asAtFirst("a new one", x -> Check.same("a new one", x.size(), 0));
        asAtFirst("cleared twice", x -> {
            use(x);
            x.clear();
        });
    }

    private static void clearOfAFullRow() {
        LineGolomb x = new LineGolomb(8, 0, 200);
        Check.fillTo(x, 6000);
        Check.unsupported("no room", () -> x.code(0, 0));
        x.clear();
        Check.same("no bit", x.size(), 0);
        Check.fillTo(x, 6000);
        Check.unsupported("no room again", () -> x.code(0, 0));
        new Twins(8, 0, 110).alike("a full row", y -> {
            Check.fillTo(y, 6000);
            y.clear();
        }, y -> Check.same("a new one", y.size(), 0));
    }

    private static void clearWhen1000Wait() {
        LineGolomb x = new LineGolomb(8, 0, 200);
        Check.fillTo(x, 1000);
        Check.same("all", x.pass(0, 1000), 1000);
        Check.same("no room", x.feed(1), false);
        x.clear();
        Check.same("none waits", x.waiting(), 0);
        Check.same("room", x.feed(1), true);
        Check.fillTo(x, 1000);
        Check.same("room for all the others", x.pass(0, 1000), 999);
        Check.same("the first that came", x.read(0), 0);
    }

    private static void clearAtTheLastStep() {
        asAtFirst("both at step 31", x -> {
            x.run(65535, true);
            x.pass(0, 100);
            x.readRun(65535);
            Check.same("steps", x.step(false) + x.step(true), 62);
        });
    }

    private static void clearAtACountOf64() {
        for (int kind = 0; kind < 2; kind++) {
            int of = kind;
            asAtFirst("a count of 64", x -> {
                for (int n = 0; n < 63; n++) {
                    x.interrupt(of, -1);
                }
                x.pass(0, 1000);
                for (int n = 0; n < 63; n++) {
                    x.readInterrupt(of);
                }
                Check.same("counts", x.state(false, of, 1) + x.state(true, of, 1), 128);
            });
        }
    }

    private static void clearOfEndedRuns() {
        asAtFirst("runs that were ended", x -> {
            x.run(30, false);
            x.pass(0, 100);
            Check.same("read", x.readRun(100), 30);
            Check.same("ended", x.wasEnded(), true);
        });
    }
}
