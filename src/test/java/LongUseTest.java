import java.util.Random;
import java.util.Set;

/** Far more calls than are promised, with any values: what they answer is free, but each ends, and the machine never throws. */
public final class LongUseTest {
    private static final int OBJECTS = 30;
    private static final int CALLS = 5000;
    private static final Set<String> MAY_BE_THROWN = Set.of(
        "IndexOutOfBoundsException", "IllegalArgumentException", "UnsupportedOperationException");
    private static final int[] EDGES = {Integer.MIN_VALUE, -65537, -1, 0, 1, 2, 65535, 65536, 131073, Integer.MAX_VALUE};
    private static final String[] CALLED = {
        "code(i, i)", "run(i, b)", "interrupt(i, i)", "bitAt(i)", "size()", "feed(i)", "pass(i, i)", "read(i)", "readRun(i)",
        "readInterrupt(i)", "wasEnded()", "waiting()", "map(i, b)", "unmap(i, b)", "step(b)", "state(b, i, i)", "told(i)"};

    public static void main(String[] args) {
        for (int seed = 0; seed < OBJECTS; seed++) {
            Random random = new Random(seed);
            LineGolomb x = new LineGolomb(any(random), any(random), any(random));
            for (int n = 0; n < CALLS; n++) {
                // Now and then all starts anew: a full row would refuse most of what follows.
                ask(x, random.nextInt(500) == 0 ? "clear()" : fill(CALLED[random.nextInt(CALLED.length)], random));
            }
        }
        Check.end("LongUseTest");
    }

    private static int any(Random random) {
        return switch (random.nextInt(4)) {
            case 0 -> EDGES[random.nextInt(EDGES.length)];
            case 1 -> random.nextInt(2);
            case 2 -> random.nextInt(40) - 5;
            default -> random.nextInt(1 << random.nextInt(18));
        };
    }

    private static String fill(String call, Random random) {
        StringBuilder text = new StringBuilder();
        int open = call.indexOf('(');
        for (int n = 0; n < call.length(); n++) {
            char c = call.charAt(n);
            if (n > open && c == 'i') {
                text.append(any(random));
            } else if (n > open && c == 'b') {
                text.append(random.nextBoolean());
            } else {
                text.append(c);
            }
        }
        return text.toString();
    }

    private static void ask(LineGolomb x, String call) {
        String answer = Script.answer(x, call).toString();
        boolean named = !answer.endsWith("Exception") && !answer.endsWith("Error") || MAY_BE_THROWN.contains(answer);
        Check.same(call + " answered " + answer + ": that may be", named, true);
    }
}
