import java.util.Random;

/** All promises: long runs of calls, right and wrong ones, on the program and on the model. */
public final class ModelTest {
    private static final int RUNS = 3000;
    // The document promises 512 calls; the rest of them is for the look at the end.
    private static final int CALLS = 480;
    private static final int[] EDGES = {Integer.MIN_VALUE, -65537, -1, 0, 1, 2, 65535, 65536, 131073, Integer.MAX_VALUE};

    private final Random random;
    private final LineGolomb x;
    private final Model model;
    private final String name;
    private final int style;
    private int passedTo = 0;
    private int calls = 0;

    private ModelTest(int seed) {
        random = new Random(seed);
        int bits = random.nextInt(4) == 0 ? edge() : random.nextInt(18);
        int near = random.nextInt(3) == 0 ? edge() : random.nextInt(random.nextBoolean() ? 4 : 300);
        int limit = random.nextInt(2) == 0 ? 0 : random.nextInt(210);
        x = new LineGolomb(bits, near, limit);
        model = new Model(bits, near, limit);
        name = "run " + seed + " (" + bits + ", " + near + ", " + limit + ") ";
        style = random.nextInt(5);
    }

    public static void main(String[] args) {
        for (int seed = 0; seed < RUNS; seed += 2) {
            inTurns(new ModelTest(seed), new ModelTest(seed + 1));
        }
        Check.end("ModelTest");
    }

    /** Two objects in turns: neither may see anything of the other one. */
    private static void inTurns(ModelTest one, ModelTest other) {
        while (one.calls < CALLS || other.calls < CALLS) {
            one.turn();
            other.turn();
        }
        one.end();
        other.end();
    }

    private void turn() {
        if (calls >= CALLS) {
            return;
        }
        if (random.nextInt(20) == 0) {
            lookCall();
        } else if (style == 0) {
            anyCall();
        } else if (style == 1) {
            writingCall();
        } else {
            twoSides(style == 2 ? 2 : random.nextInt(3));
        }
    }

    private void end() {
        Check.same(name + "at the end", Check.seen(x), seen());
    }

    private int edge() {
        return EDGES[random.nextInt(EDGES.length)];
    }

    private int below(int bound) {
        return random.nextInt(20) == 0 ? edge() : random.nextInt(bound);
    }

    private int k() {
        return below(model.told(4) + 1);
    }

    private int number() {
        return random.nextInt(3) == 0 ? random.nextInt(4) : below((1 << model.told(4)) + 1);
    }

    private int error() {
        int half = model.told(3) / 2;
        int most = random.nextBoolean() ? half : Math.min(half, 2);
        return random.nextInt(30) == 0 ? edge() : random.nextInt(2 * most + 1) - most;
    }

    private int kind() {
        return random.nextInt(40) == 0 ? edge() : random.nextInt(2);
    }

    private int samples() {
        int scale = random.nextInt(17);
        return random.nextInt(40) == 0 ? edge() : random.nextInt(1 << scale);
    }

    private void same(String what, Check.Call got, Check.Call due) {
        calls++;
        Check.same(name + what, Check.outcome(got), Check.outcome(due));
    }

    private void writingCall() {
        int a = random.nextInt(3);
        if (a == 0) {
            code(k(), number());
        } else if (a == 1) {
            run(samples(), random.nextInt(3) == 0);
        } else {
            interrupt(kind(), error());
        }
    }

    private void anyCall() {
        int a = random.nextInt(8);
        if (a < 3) {
            writingCall();
        } else if (a < 4) {
            pass(below(model.size() + 2), below(200));
        } else if (a < 5) {
            feed(random.nextInt(20) == 0 ? edge() : random.nextInt(2));
        } else {
            readingCall();
        }
    }

    private void readingCall() {
        int a = random.nextInt(3);
        if (a == 0) {
            read(k());
        } else if (a == 1) {
            readRun(random.nextInt(40) == 0 ? edge() : samples() + 1);
        } else {
            readInterrupt(kind());
        }
    }

    /** Writes and reads the same things, so that the reading side's states grow too; now and then something is amiss. */
    private void twoSides(int a) {
        if (random.nextInt(50) == 0) {
            anyCall();
        } else if (a == 0) {
            int k = k();
            code(k, number());
            passNew();
            read(k);
        } else if (a == 1) {
            int samples = samples();
            boolean toEnd = random.nextInt(3) == 0;
            run(samples, toEnd);
            if (toEnd && samples == 0) {
                return;
            }
            passNew();
            readRun(toEnd ? samples : samples + 1 + random.nextInt(3) - random.nextInt(2));
        } else {
            int kind = kind();
            interrupt(kind, error());
            passNew();
            readInterrupt(kind);
        }
    }

    private void passNew() {
        int from = Math.min(passedTo, model.size());
        passedTo = model.size();
        pass(from, 1000);
    }

    private void code(int k, int number) {
        same("code(" + k + ", " + number + ")", () -> x.code(k, number), () -> model.code(k, number));
    }

    private void run(int samples, boolean toEnd) {
        same("run(" + samples + ", " + toEnd + ")", () -> x.run(samples, toEnd), () -> model.run(samples, toEnd));
    }

    private void interrupt(int kind, int error) {
        same("interrupt(" + kind + ", " + error + ")", () -> x.interrupt(kind, error), () -> model.interrupt(kind, error));
    }

    private void feed(int bit) {
        same("feed(" + bit + ")", () -> x.feed(bit), () -> model.feed(bit));
    }

    private void pass(int i, int many) {
        same("pass(" + i + ", " + many + ")", () -> x.pass(i, many), () -> model.pass(i, many));
    }

    private void read(int k) {
        same("read(" + k + ")", () -> x.read(k), () -> model.read(k));
    }

    private void readRun(int left) {
        same("readRun(" + left + ")", () -> x.readRun(left), () -> model.readRun(left));
    }

    private void readInterrupt(int kind) {
        same("readInterrupt(" + kind + ")", () -> x.readInterrupt(kind), () -> model.readInterrupt(kind));
    }

    private void lookCall() {
        int a = random.nextInt(10);
        int n = random.nextInt(3) == 0 ? edge() : random.nextInt(7) - 1;
        int kind = kind();
        int bit = below(model.size() + 2);
        boolean flag = random.nextBoolean();
        switch (a) {
            case 0 -> same("bitAt(" + bit + ")", () -> x.bitAt(bit), () -> model.bitAt(bit));
            case 1 -> same("size()", x::size, model::size);
            case 2 -> same("wasEnded()", x::wasEnded, model::wasEnded);
            case 3 -> same("waiting()", x::waiting, model::waiting);
            case 4 -> same("map(" + n + ", " + flag + ")", () -> x.map(n, flag), () -> model.map(n, flag));
            case 5 -> same("unmap(" + n + ", " + flag + ")", () -> x.unmap(n, flag), () -> model.unmap(n, flag));
            case 6 -> same("step(" + flag + ")", () -> x.step(flag), () -> model.step(flag));
            case 7 -> same("state(" + flag + ", " + kind + ", " + n + ")",
                () -> x.state(flag, kind, n), () -> model.state(flag, kind, n));
            case 8 -> same("told(" + n + ")", () -> x.told(n), () -> model.told(n));
            default -> clearSometimes();
        }
    }

    private void clearSometimes() {
        if (random.nextInt(3) == 0) {
            calls++;
            x.clear();
            model.clear();
            passedTo = 0;
        }
    }

    private String seen() {
        StringBuilder text = new StringBuilder();
        text.append(model.size()).append(' ').append(model.waiting()).append(' ').append(model.wasEnded());
        for (int side = 0; side < 2; side++) {
            text.append(" | ").append(model.step(side == 1));
            for (int n = 0; n < 8; n++) {
                text.append(' ').append(model.state(side == 1, n / 4, n % 4));
            }
        }
        return text.toString();
    }
}
