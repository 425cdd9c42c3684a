/** Promises 14 and 15: errors as numbers, and back. */
public final class MapTest {
    public static void main(String[] args) {
        LineGolomb x = new LineGolomb(2, 1, 0);
        int[] errors = {0, 1, -1, 2, -2, 65535, -65535, 65536, -65536};
        int[] plain = {0, 2, 1, 4, 3, 131070, 131069, 131072, 131071};
        int[] special = {1, 3, 0, 5, 2, 131071, 131068, 131073, 131070};
        for (int n = 0; n < errors.length; n++) {
            Check.same("map " + errors[n], x.map(errors[n], false), plain[n]);
            Check.same("special map " + errors[n], x.map(errors[n], true), special[n]);
            Check.same("unmap " + plain[n], x.unmap(plain[n], false), errors[n]);
            Check.same("special unmap " + special[n], x.unmap(special[n], true), errors[n]);
        }
        for (int error : new int[] {65537, -65537, Integer.MIN_VALUE, Integer.MAX_VALUE}) {
            Check.illegal("map " + error, () -> x.map(error, false));
            Check.illegal("special map " + error, () -> x.map(error, true));
        }
        for (int number : new int[] {-1, -2, -3, 131074, 131075, Integer.MIN_VALUE, Integer.MAX_VALUE,
            Integer.MIN_VALUE + 1, Integer.MAX_VALUE - 1}) {
            Check.illegal("unmap " + number, () -> x.unmap(number, false));
            Check.illegal("special unmap " + number, () -> x.unmap(number, true));
        }
        Check.illegal("unmap 131073", () -> x.unmap(131073, false));
        Check.illegal("special unmap 131072", () -> x.unmap(131072, true));
        Check.end("MapTest");
    }
}
