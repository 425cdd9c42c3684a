/** Promises 14 and 15: the bounds of errors as numbers, and back. */
public final class BoundsOfMapTest {
    private static final int LEAST = Integer.MIN_VALUE, MOST = Integer.MAX_VALUE;
    private static final String ILLEGAL = "IllegalArgumentException";
    private static final Twins TWINS = new Twins(8, 0, 26);

    public static void main(String[] args) {
        numbersOnBothSidesOf0();
        farthestErrors();
        errorsThatAreTooFar();
        leastNumbers();
        greatestNumbers();
        numbersOfNoError();
        allThereAndBack();
        theObjectDoesNotMatter();
        Check.end("BoundsOfMapTest");
    }

    private static void bothWays(int error, boolean special, int number) {
        LineGolomb x = new LineGolomb(8, 0, 26);
        Check.same("map " + error + " " + special, x.map(error, special), number);
        Check.same("unmap " + number + " " + special, x.unmap(number, special), error);
    }

    /** "2 e, or below 0 twice it without the sign, less 1; the other way round (special): 2 e + 1, or .. less 2" */
    private static void numbersOnBothSidesOf0() {
        bothWays(0, false, 0);
        bothWays(-1, false, 1);
        bothWays(1, false, 2);
        bothWays(-2, false, 3);
        bothWays(2, false, 4);
        bothWays(-1, true, 0);
        bothWays(0, true, 1);
        bothWays(-2, true, 2);
        bothWays(1, true, 3);
        bothWays(-3, true, 4);
        bothWays(2, true, 5);
    }

    /** "IllegalArgument: it is farther from 0 than 65536": just that is not */
    private static void farthestErrors() {
        bothWays(65535, false, 131070);
        bothWays(65536, false, 131072);
        bothWays(-65535, false, 131069);
        bothWays(-65536, false, 131071);
        bothWays(65535, true, 131071);
        bothWays(65536, true, 131073);
        bothWays(-65535, true, 131068);
        bothWays(-65536, true, 131070);
    }

    /** "IllegalArgument: it is farther from 0 than 65536" */
    private static void errorsThatAreTooFar() {
        for (int error : new int[] {65537, -65537, 65538, -65538, 1 << 30, -(1 << 30), LEAST, LEAST + 1, MOST}) {
            TWINS.refused("map " + error, ILLEGAL, x -> x.run(9, false), x -> x.map(error, false));
            TWINS.refused("special map " + error, ILLEGAL, x -> x.run(9, false), x -> x.map(error, true));
        }
    }

    /** "IllegalArgument: there is none": none is below 0 */
    private static void leastNumbers() {
        for (int number : new int[] {-1, -2, -3, -4, -131072, LEAST, LEAST + 1, LEAST + 2}) {
            TWINS.refused("unmap " + number, ILLEGAL, x -> x.run(9, false), x -> x.unmap(number, false));
            TWINS.refused("special unmap " + number, ILLEGAL, x -> x.run(9, false), x -> x.unmap(number, true));
        }
    }

    /** "The error that map() makes a number of": the greatest numbers that there are */
    private static void greatestNumbers() {
        LineGolomb x = new LineGolomb(8, 0, 26);
        int[] numbers = {131068, 131069, 131070, 131071, 131072, 131073};
        Object[] plain = {65534, -65535, 65535, -65536, 65536, ILLEGAL};
        Object[] special = {-65535, 65534, -65536, 65535, ILLEGAL, 65536};
        for (int n = 0; n < numbers.length; n++) {
            int number = numbers[n];
            Check.same("unmap " + number, Check.outcome(() -> x.unmap(number, false)), plain[n]);
            Check.same("special unmap " + number, Check.outcome(() -> x.unmap(number, true)), special[n]);
        }
    }

    /** "IllegalArgument: there is none": above the greatest, and in the gap below it */
    private static void numbersOfNoError() {
        for (int number : new int[] {131074, 131075, 131076, 1 << 30, MOST - 2, MOST - 1, MOST}) {
            TWINS.refused("unmap " + number, ILLEGAL, x -> x.run(9, false), x -> x.unmap(number, false));
            TWINS.refused("special unmap " + number, ILLEGAL, x -> x.run(9, false), x -> x.unmap(number, true));
        }
        TWINS.refused("unmap 131073", ILLEGAL, x -> x.run(9, false), x -> x.unmap(131073, false));
        TWINS.refused("special unmap 131072", ILLEGAL, x -> x.run(9, false), x -> x.unmap(131072, true));
    }

    /** Each error comes back, and no two have the same number. */
    private static void allThereAndBack() {
        for (int special = 0; special < 2; special++) {
            boolean way = special == 1;
            boolean[] taken = new boolean[131074];
            LineGolomb x = new LineGolomb(8, 0, 26);
            for (int error = -65536; error <= 65536; error++) {
                if (error % 200 == 0) {
                    x = new LineGolomb(8, 0, 26);
                }
                int number = x.map(error, way);
                boolean one = number >= 0 && number < taken.length && !taken[number];
                Check.same("a number of its own for " + error, one, true);
                Check.same("unmap " + number, x.unmap(number, way), error);
                if (one) {
                    taken[number] = true;
                }
            }
        }
    }

    /** The bounds are the same for each object, and neither call changes it. */
    private static void theObjectDoesNotMatter() {
        for (int[] with : new int[][] {{2, 1, 0}, {16, 0, 200}, {16, 255, 0}}) {
            LineGolomb x = new LineGolomb(with[0], with[1], with[2]);
            Check.same("map", x.map(65536, false), 131072);
            Check.same("unmap", x.unmap(131073, true), 65536);
            Check.illegal("map", () -> x.map(65537, false));
            Check.illegal("unmap", () -> x.unmap(131073, false));
        }
        TWINS.unchanged("map", x -> x.run(9, false), x -> x.map(-65536, true));
        TWINS.unchanged("unmap", x -> x.run(9, false), x -> x.unmap(131072, false));
    }
}
