import java.util.Arrays;
import java.util.stream.IntStream;

/** Numbers and yards that the tests of the edges share. */
final class Edges {
    /** The document's own limits, lengths of bit rows, and the farthest numbers. */
    private static final int[] FAR_OFF = {Integer.MIN_VALUE, Integer.MIN_VALUE + 1, -1000001, -1001,
        -101, -64, -32, -10, -2, 6, 10, 11, 12, 16, 30, 31, 32, 33, 64, 256, 65536, 1 << 30,
        Integer.MAX_VALUE - 1, Integer.MAX_VALUE};

    private Edges() {
    }

    /** Numbers beside a range: the two next to it, and far ones. */
    static int[] outside(int first, int last) {
        IntStream far = Arrays.stream(FAR_OFF).filter(n -> n < first - 1 || n > last + 1);
        return IntStream.concat(IntStream.of(first - 1, last + 1), far).toArray();
    }

    /** Piece p leads from point p to the next one, the last point's to point 0; chargers everywhere. */
    static CarrierPaths circle(int points, int time) {
        CarrierPaths x = new CarrierPaths(points);
        for (int p = 0; p < points; p++) {
            x.piece(p, (p + 1) % points, time);
            x.charger(p, true);
        }
        return x;
    }

    /**
     * Puts a carrier at a point and lets it enter, LOADED, the piece of THE WAY to another point.
     * No other carrier may stand there without a job. Answers its number.
     */
    static int send(CarrierPaths x, Check check, int from, int to, int charge) {
        int carrier = x.carrier(from, charge);
        x.job(from, to);
        check.is("given where it stands", 0, x.assign());
        check.is("loads", 3, x.step(carrier));
        check.is("enters", 10, x.step(carrier));
        return carrier;
    }
}
