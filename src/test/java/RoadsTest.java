/** Promises 2 (piece), 11 (close) and 13 (way). */
public final class RoadsTest {
    private static final Check CHECK = new Check("RoadsTest");

    public static void main(String[] args) {
        piece();
        pieceLimits();
        close();
        closedUnderACarrier();
        wayIsDirected();
        wayTakesTheLeastPiece();
        wayChoosesAtEachPoint();
        wayOfNinePieces();
        wayOutsideTheYard();
        CHECK.end();
    }

    private static void isWay(CarrierPaths x, int a, int b, int... due) {
        for (int what = 0; what < 3; what++) {
            CHECK.is("way " + a + " to " + b + ", what " + what, due[what], x.way(a, b, what));
        }
    }

    private static void piece() {
        CarrierPaths x = new CarrierPaths(3);
        CHECK.is("first", 0, x.piece(0, 1, 1));
        CHECK.is("second, the same points", 1, x.piece(0, 1, 100));
        CHECK.is("third, back", 2, x.piece(1, 0, 50));
        int[][] wrongs = {{0, 0, 1}, {-1, 0, 1}, {0, -1, 1}, {3, 0, 1}, {0, 3, 1}, {0, 1, 0},
            {0, 1, 101}, {0, 1, -1}, {Integer.MIN_VALUE, Integer.MAX_VALUE, 1},
            {0, 1, Integer.MAX_VALUE}, {0, 1, Integer.MIN_VALUE}};
        for (int[] w : wrongs) {
            CHECK.illegal("piece " + w[0] + " " + w[1] + " " + w[2], () -> x.piece(w[0], w[1], w[2]));
        }
        CHECK.is("what throws changes nothing", 3, x.count(1));
        CHECK.is("the next number", 3, x.piece(1, 2, 1));
    }

    private static void pieceLimits() {
        CarrierPaths x = new CarrierPaths(2);
        for (int n = 0; n < 30; n++) {
            CHECK.is("piece", n, x.piece(n % 2, 1 - n % 2, 100 - n));
        }
        CHECK.tooMany("one more than 30", () -> x.piece(0, 1, 1));
        CHECK.illegal("wrong points are told first", () -> x.piece(0, 0, 1));
        CHECK.illegal("a wrong time is told first", () -> x.piece(0, 1, 101));
        CHECK.is("still 30", 30, x.count(1));
        isWay(x, 0, 1, 72, 28, 1);
        isWay(x, 1, 0, 71, 29, 1);
        CHECK.yes("the last one closes", x.close(29, true));
        isWay(x, 1, 0, 73, 27, 1);
    }

    private static void close() {
        CarrierPaths x = new CarrierPaths(3);
        x.piece(0, 1, 5);
        x.piece(1, 2, 5);
        x.piece(0, 2, 30);
        CHECK.no("it is open", x.close(0, false));
        for (int piece : new int[] {-1, 3, 30, 31, Integer.MIN_VALUE, Integer.MAX_VALUE}) {
            CHECK.no("piece " + piece, x.close(piece, true));
            CHECK.no("piece " + piece, x.close(piece, false));
        }
        isWay(x, 0, 2, 10, 0, 2);
        CHECK.yes("closed", x.close(1, true));
        CHECK.no("it is closed", x.close(1, true));
        isWay(x, 0, 2, 30, 2, 1);
        isWay(x, 1, 2, -1, -1, -1);
        CHECK.yes("closed too", x.close(2, true));
        isWay(x, 0, 2, -1, -1, -1);
        isWay(x, 0, 1, 5, 0, 1);
        CHECK.yes("open again", x.close(1, false));
        isWay(x, 0, 2, 10, 0, 2);
        CHECK.is("a new piece beside closed ones", 3, x.piece(2, 0, 7));
        isWay(x, 1, 0, 12, 1, 2);
        CHECK.is("closed ones count as pieces", 4, x.count(1));
    }

    private static void closedUnderACarrier() {
        CarrierPaths x = new CarrierPaths(2);
        x.piece(0, 1, 5);
        x.charger(1, true);
        x.carrier(0, 100);
        x.job(0, 1);
        x.assign();
        x.step(0);
        CHECK.is("enters", 10, x.step(0));
        CHECK.yes("closed under it", x.close(0, true));
        CHECK.is("it goes on", 0, x.look(0, 1));
        CHECK.is("as long as before", 5, x.look(0, 2));
        CHECK.is("and comes to the end", 1, x.tick(5));
        CHECK.is("ends its job", 4, x.step(0));
    }

    private static void wayIsDirected() {
        CarrierPaths x = new CarrierPaths(2);
        x.piece(0, 1, 9);
        isWay(x, 0, 1, 9, 0, 1);
        isWay(x, 1, 0, -1, -1, -1);
        isWay(x, 0, 0, 0, -1, 0);
        isWay(x, 1, 1, 0, -1, 0);
        x.piece(1, 0, 1);
        isWay(x, 0, 0, 0, -1, 0);
    }

    private static void wayTakesTheLeastPiece() {
        CarrierPaths x = new CarrierPaths(3);
        x.piece(0, 2, 10);
        x.piece(0, 1, 4);
        x.piece(1, 2, 6);
        x.piece(0, 2, 10);
        isWay(x, 0, 2, 10, 0, 1);
        x.close(0, true);
        isWay(x, 0, 2, 10, 1, 2);
        x.close(1, true);
        isWay(x, 0, 2, 10, 3, 1);
        x.close(0, false);
        x.piece(1, 2, 5);
        x.close(1, false);
        isWay(x, 0, 2, 9, 1, 2);
        isWay(x, 1, 2, 5, 4, 1);
    }

    private static void wayChoosesAtEachPoint() {
        CarrierPaths x = new CarrierPaths(5);
        x.piece(3, 4, 2);
        x.piece(1, 3, 2);
        x.piece(1, 4, 4);
        x.piece(0, 2, 1);
        x.piece(2, 4, 5);
        x.piece(0, 1, 2);
        isWay(x, 0, 4, 6, 3, 2);
        x.close(4, true);
        isWay(x, 0, 4, 6, 5, 3);
        isWay(x, 1, 4, 4, 1, 2);
    }

    private static void wayOfNinePieces() {
        CarrierPaths x = new CarrierPaths(10);
        for (int p = 8; p >= 0; p--) {
            x.piece(p, p + 1, 100);
        }
        isWay(x, 0, 9, 900, 8, 9);
        isWay(x, 9, 0, -1, -1, -1);
        x.piece(9, 0, 100);
        isWay(x, 1, 0, 900, 7, 9);
    }

    private static void wayOutsideTheYard() {
        CarrierPaths x = new CarrierPaths(3);
        x.piece(0, 1, 1);
        int[][] wrongs = {{-1, 0, 0}, {0, -1, 0}, {3, 0, 0}, {0, 3, 0}, {0, 1, -1}, {0, 1, 3},
            {9, 9, 0}, {Integer.MIN_VALUE, 0, 0}, {0, Integer.MAX_VALUE, 0},
            {0, 1, Integer.MIN_VALUE}, {0, 1, Integer.MAX_VALUE}, {1, 0, 3}};
        for (int[] w : wrongs) {
            CHECK.illegal("way " + w[0] + " " + w[1] + " " + w[2], () -> x.way(w[0], w[1], w[2]));
        }
    }
}
