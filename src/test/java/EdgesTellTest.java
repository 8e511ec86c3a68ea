/** Promises 13 to 16: a test of its own for each sentence that names a boundary case. */
public final class EdgesTellTest {
    private static final Check CHECK = new Check("EdgesTellTest");

    public static void main(String[] args) {
        way();
        look();
        of();
        count();
        CHECK.end();
    }

    private static void way() {
        wayToItself();
        wayThatIsNot();
        wayOfLeastTime();
        wayByTheLeastPiece();
        wayByTheLeastPieceAtEachPoint();
        longestWay();
        wayWithoutSuchPoints();
        wayWithoutSuchWhat();
    }

    private static void isWay(CarrierPaths x, int a, int b, int... dues) {
        for (int what = 0; what < 3; what++) {
            CHECK.is("way " + a + " to " + b + ", what " + what, dues[what], x.way(a, b, what));
        }
    }

    private static void wayToItself() {
        CHECK.sentence("13: its time (0 to itself), its first piece (NONE to itself)");
        CarrierPaths x = Edges.circle(10, 1);
        for (int p = 0; p < 10; p++) {
            isWay(x, p, p, 0, -1, 0);
        }
        CarrierPaths bare = new CarrierPaths(2);
        isWay(bare, 0, 0, 0, -1, 0);
        isWay(bare, 1, 1, 0, -1, 0);
        bare.piece(0, 1, 1);
        bare.close(0, true);
        isWay(bare, 0, 0, 0, -1, 0);
    }

    private static void wayThatIsNot() {
        CHECK.sentence("13: NONE if there is none");
        CarrierPaths x = new CarrierPaths(3);
        isWay(x, 0, 1, -1, -1, -1);
        x.piece(0, 1, 100);
        x.piece(2, 1, 100);
        isWay(x, 1, 0, -1, -1, -1);
        isWay(x, 0, 2, -1, -1, -1);
        isWay(x, 0, 1, 100, 0, 1);
        x.piece(1, 2, 100);
        isWay(x, 0, 2, 200, 0, 2);
        x.close(2, true);
        isWay(x, 0, 2, -1, -1, -1);
        isWay(x, 0, 1, 100, 0, 1);
        x.close(0, true);
        isWay(x, 0, 1, -1, -1, -1);
        x.close(2, false);
        isWay(x, 0, 2, -1, -1, -1);
        isWay(x, 1, 2, 100, 2, 1);
    }

    private static void wayOfLeastTime() {
        CHECK.sentence("Terms: THE WAY has the least time");
        CarrierPaths x = new CarrierPaths(4);
        x.piece(0, 3, 10);
        x.piece(0, 1, 3);
        x.piece(1, 2, 3);
        x.piece(2, 3, 3);
        isWay(x, 0, 3, 9, 1, 3);
        x.piece(0, 3, 8);
        isWay(x, 0, 3, 8, 4, 1);
        x.piece(1, 3, 4);
        isWay(x, 0, 3, 7, 1, 2);
        x.close(5, true);
        isWay(x, 0, 3, 8, 4, 1);
        x.close(4, true);
        isWay(x, 0, 3, 9, 1, 3);
        x.close(2, true);
        isWay(x, 0, 3, 10, 0, 1);
    }

    private static void wayByTheLeastPiece() {
        CHECK.sentence("Terms: it goes on by the least piece by which that is kept");
        CarrierPaths x = new CarrierPaths(3);
        x.piece(0, 2, 11);
        x.piece(0, 1, 4);
        x.piece(1, 2, 6);
        x.piece(0, 2, 10);
        x.piece(1, 2, 6);
        isWay(x, 0, 2, 10, 1, 2);
        x.close(1, true);
        isWay(x, 0, 2, 10, 3, 1);
        x.close(1, false);
        isWay(x, 1, 2, 6, 2, 1);
        x.close(2, true);
        isWay(x, 1, 2, 6, 4, 1);
        isWay(x, 0, 2, 10, 1, 2);
        CarrierPaths fewer = new CarrierPaths(3);
        fewer.piece(1, 2, 6);
        fewer.piece(0, 2, 10);
        fewer.piece(0, 1, 4);
        isWay(fewer, 0, 2, 10, 1, 1);
    }

    private static void wayByTheLeastPieceAtEachPoint() {
        CHECK.sentence("Terms: at each point it goes on by the least piece");
        CarrierPaths x = new CarrierPaths(5);
        x.piece(2, 3, 1);
        x.piece(3, 4, 1);
        x.piece(0, 4, 4);
        x.piece(1, 4, 3);
        x.piece(1, 2, 1);
        x.piece(0, 1, 1);
        isWay(x, 0, 4, 4, 2, 1);
        x.close(2, true);
        isWay(x, 0, 4, 4, 5, 2);
        x.close(3, true);
        isWay(x, 0, 4, 4, 5, 4);
        isWay(x, 2, 4, 2, 0, 2);
    }

    private static void longestWay() {
        CHECK.sentence("Terms: its time is the sum of theirs");
        CarrierPaths x = Edges.circle(10, 100);
        for (int p = 0; p < 10; p++) {
            isWay(x, p, (p + 9) % 10, 900, p, 9);
        }
    }

    private static void wayWithoutSuchPoints() {
        CHECK.sentence("13: IllegalArgumentException if there are no such points");
        for (int points : new int[] {2, 7, 10}) {
            CarrierPaths x = Edges.circle(points, 5);
            for (int p : Edges.outside(0, points - 1)) {
                CHECK.illegal("from " + p, () -> x.way(p, 0, 0));
                CHECK.illegal("to " + p, () -> x.way(0, p, 1));
                CHECK.illegal("from and to " + p, () -> x.way(p, p, 2));
            }
            isWay(x, 0, points - 1, 5 * (points - 1), 0, points - 1);
            isWay(x, points - 1, 0, 5, points - 1, 1);
        }
    }

    private static void wayWithoutSuchWhat() {
        CHECK.sentence("13: IllegalArgumentException if there is no such what");
        CarrierPaths x = new CarrierPaths(3);
        x.piece(0, 1, 5);
        for (int what : Edges.outside(0, 2)) {
            CHECK.illegal("what " + what, () -> x.way(0, 1, what));
            CHECK.illegal("what " + what + " to itself", () -> x.way(0, 0, what));
            CHECK.illegal("what " + what + " without a way", () -> x.way(1, 0, what));
        }
    }

    private static void look() {
        lookAtOneThatStands();
        lookAtOneUnderWay();
        lookAtEndedJobs();
        lookAtEmptyTime();
        lookWithoutSuchCarrier();
        lookWithoutSuchWhat();
    }

    private static void isCarrier(CarrierPaths x, int carrier, int... dues) {
        for (int what = 0; what < dues.length; what++) {
            CHECK.is("carrier " + carrier + ", what " + what, dues[what], x.look(carrier, what));
        }
    }

    private static void lookAtOneThatStands() {
        CHECK.sentence("14: ON which it is, NONE without; its end (NONE without); its job, NONE without");
        CarrierPaths x = Edges.circle(3, 10);
        x.carrier(0, 0);
        x.carrier(2, 1000);
        isCarrier(x, 0, 0, -1, -1, -1, 0, 0, 0);
        isCarrier(x, 1, 2, -1, -1, -1, 1000, 0, 0);
        x.job(2, 0);
        isCarrier(x, 1, 2, -1, -1, -1, 1000, 0, 0);
        x.assign();
        isCarrier(x, 1, 2, -1, -1, 0, 1000, 0, 0);
        x.tick(1000000);
        isCarrier(x, 1, 2, -1, -1, 0, 1000, 0, 0);
    }

    private static void lookAtOneUnderWay() {
        CHECK.sentence("14: the point where it stands, or to which it is under way");
        CarrierPaths x = Edges.circle(3, 10);
        x.tick(4);
        Edges.send(x, CHECK, 2, 1, 1000);
        isCarrier(x, 0, 0, 2, 14, 0, 990, 0, 0);
        x.tick(13);
        isCarrier(x, 0, 0, 2, 14, 0, 990, 0, 0);
        x.tick(14);
        isCarrier(x, 0, 0, -1, -1, 0, 990, 0, 0);
        x.step(0);
        isCarrier(x, 0, 1, 0, 24, 0, 980, 0, 0);
        x.tick(100);
        isCarrier(x, 0, 1, -1, -1, 0, 980, 0, 0);
    }

    private static void lookAtEndedJobs() {
        CHECK.sentence("14: jobs that it ended");
        CarrierPaths x = Edges.circle(2, 1);
        x.carrier(0, 100);
        x.carrier(1, 100);
        for (int n = 0; n < 12; n++) {
            CHECK.is("ended before", n, x.look(0, 5));
            x.job(n % 2, 1 - n % 2);
            CHECK.is("given", 0, x.assign());
            CHECK.is("loads", 3, x.step(0));
            CHECK.is("LOADED is not ended", n, x.look(0, 5));
            CHECK.is("enters", 10, x.step(0));
            x.tick(n + 1);
            CHECK.is("come is not ended", n, x.look(0, 5));
            CHECK.is("ends", 4, x.step(0));
        }
        CHECK.is("all", 12, x.look(0, 5));
        CHECK.is("the other one none", 0, x.look(1, 5));
        CHECK.is("in all", 12, x.count(5));
    }

    private static void lookAtEmptyTime() {
        CHECK.sentence("14: time on pieces without a LOADED job (as of the pieces that it entered)");
        CarrierPaths x = Edges.circle(4, 10);
        x.carrier(0, 1000);
        x.job(2, 0);
        x.assign();
        CHECK.is("nothing yet", 0, x.look(0, 6));
        x.step(0);
        CHECK.is("from when it entered", 10, x.look(0, 6));
        x.step(0);
        x.tick(10);
        CHECK.is("once a piece", 10, x.look(0, 6));
        x.step(0);
        x.tick(20);
        CHECK.is("two pieces", 20, x.look(0, 6));
        x.step(0);
        x.step(0);
        x.tick(30);
        x.step(0);
        x.tick(40);
        CHECK.is("ends", 4, x.step(0));
        CHECK.is("not the LOADED ones", 20, x.look(0, 6));
        x.job(1, 0);
        x.assign();
        x.step(0);
        CHECK.is("in all", 30, x.look(0, 6));
    }

    private static void lookWithoutSuchCarrier() {
        CHECK.sentence("14: IndexOutOfBoundsException if there is no such carrier");
        CarrierPaths x = new CarrierPaths(3);
        CHECK.outside("there is none", () -> x.look(0, 0));
        for (int carriers = 1; carriers <= 6; carriers++) {
            x.carrier(carriers % 3, 10 * carriers);
            for (int c : Edges.outside(0, carriers - 1)) {
                CHECK.outside("carrier " + c + " of " + carriers, () -> x.look(c, 4));
            }
            CHECK.is("the last one", 10 * carriers, x.look(carriers - 1, 4));
        }
    }

    private static void lookWithoutSuchWhat() {
        CHECK.sentence("14: IndexOutOfBoundsException if there is no such what");
        CarrierPaths x = new CarrierPaths(2);
        x.carrier(0, 10);
        for (int what : Edges.outside(0, 6)) {
            CHECK.outside("what " + what, () -> x.look(0, what));
            CHECK.outside("what " + what + " of no carrier", () -> x.look(1, what));
        }
        isCarrier(x, 0, 0, -1, -1, -1, 10, 0, 0);
    }

    private static void of() {
        ofEachState();
        ofWithoutSuchJob();
        ofWithoutSuchWhat();
    }

    private static void isJob(CarrierPaths x, int job, int... dues) {
        for (int what = 0; what < dues.length; what++) {
            CHECK.is("job " + job + ", what " + what, dues[what], x.of(job, what));
        }
    }

    private static void ofEachState() {
        CHECK.sentence("15: 0 it WAITS, 1 GIVEN, 2 LOADED, 3 ENDED; the carrier that has or had it, NONE without");
        CarrierPaths x = Edges.circle(3, 10);
        x.close(0, true);
        x.carrier(0, 100);
        x.carrier(1, 100);
        x.job(1, 2);
        x.job(2, 0);
        isJob(x, 0, 1, 2, 0, -1);
        isJob(x, 1, 2, 0, 0, -1);
        CHECK.is("given to the one that can go", 0, x.assign());
        isJob(x, 0, 1, 2, 1, 1);
        isJob(x, 1, 2, 0, 0, -1);
        x.step(1);
        isJob(x, 0, 1, 2, 2, 1);
        x.step(1);
        x.tick(10);
        isJob(x, 0, 1, 2, 2, 1);
        x.step(1);
        isJob(x, 0, 1, 2, 3, 1);
        CHECK.is("the other job", 0, x.assign());
        isJob(x, 0, 1, 2, 3, 1);
        isJob(x, 1, 2, 0, 1, 1);
    }

    private static void ofWithoutSuchJob() {
        CHECK.sentence("15: IndexOutOfBoundsException if there is no such job");
        CarrierPaths none = new CarrierPaths(3);
        CHECK.outside("there is none", () -> none.of(0, 0));
        for (int jobs : new int[] {1, 6, 12}) {
            CarrierPaths x = new CarrierPaths(3);
            for (int j = 0; j < jobs; j++) {
                x.job(j % 3, (j + 1) % 3);
            }
            for (int job : Edges.outside(0, jobs - 1)) {
                CHECK.outside("job " + job + " of " + jobs, () -> x.of(job, 0));
            }
            isJob(x, jobs - 1, (jobs - 1) % 3, jobs % 3, 0, -1);
        }
    }

    private static void ofWithoutSuchWhat() {
        CHECK.sentence("15: IndexOutOfBoundsException if there is no such what");
        CarrierPaths x = new CarrierPaths(2);
        x.job(0, 1);
        for (int what : Edges.outside(0, 3)) {
            CHECK.outside("what " + what, () -> x.of(0, what));
            CHECK.outside("what " + what + " of no job", () -> x.of(1, what));
        }
        isJob(x, 0, 0, 1, 0, -1);
    }

    private static void count() {
        countAtTheLimits();
        countPiecesOnWhichOneIs();
        countFreeOfRings();
        countAnotherWhat();
        countAnotherRing();
        countAnotherPoint();
    }

    private static void countAtTheLimits() {
        CHECK.sentence("16: points, pieces, carriers, jobs, NOW, rings: as many as there can be");
        CarrierPaths x = new CarrierPaths(10);
        for (int n = 0; n < 30; n++) {
            x.piece(n % 10, (n + 1) % 10, 1);
        }
        for (int n = 0; n < 6; n++) {
            x.carrier(n, 0);
        }
        for (int n = 0; n < 12; n++) {
            x.job(n % 10, (n + 1) % 10);
        }
        for (int n = 0; n < 4; n++) {
            x.ring(1 << n);
        }
        x.tick(1000000);
        int[] dues = {10, 30, 6, 12, 1000000, 0, 0, 4};
        for (int what = 0; what < dues.length; what++) {
            CHECK.is("count " + what, dues[what], x.count(what));
        }
    }

    private static void countPiecesOnWhichOneIs() {
        CHECK.sentence("16: jobs that ended, pieces ON which one is");
        CarrierPaths x = Edges.circle(10, 10);
        for (int c = 0; c < 6; c++) {
            CHECK.is("pieces", c, x.count(6));
            Edges.send(x, CHECK, c, c + 1, 100);
        }
        CHECK.is("all six", 6, x.count(6));
        x.close(0, true);
        CHECK.is("a closed one counts", 6, x.count(6));
        CHECK.is("all come", 6, x.tick(10));
        CHECK.is("no piece", 0, x.count(6));
        for (int c = 0; c < 6; c++) {
            CHECK.is("ended", c, x.count(5));
            x.step(c);
        }
        CHECK.is("all ended", 6, x.count(5));
    }

    private static void countFreeOfRings() {
        CHECK.sentence("16: of ring r: 10 + r: places FREE");
        CarrierPaths x = Edges.circle(4, 10);
        x.ring(0b0001);
        x.ring(0b0010);
        x.ring(0b1100);
        x.ring(0b1111);
        x.places(2, 4);
        x.places(3, 1);
        isFree(x, 2, 2, 5, 9);
        Edges.send(x, CHECK, 0, 1, 100);
        isFree(x, 2, 1, 5, 8);
        x.carrier(1, 100);
        x.carrier(3, 100);
        isFree(x, 2, 0, 4, 6);
        x.tick(10);
        isFree(x, 2, 0, 4, 6);
        x.places(2, 1);
        isFree(x, 2, 0, 1, 3);
        x.carrier(2, 100);
        isFree(x, 2, 0, 0, 2);
    }

    private static void isFree(CarrierPaths x, int... dues) {
        for (int r = 0; r < dues.length; r++) {
            CHECK.is("free of ring " + r, dues[r], x.count(10 + r));
        }
    }

    private static CarrierPaths largest() {
        CarrierPaths x = Edges.circle(10, 1);
        for (int r = 0; r < 4; r++) {
            x.ring(1 << r);
        }
        return x;
    }

    private static void countAnotherWhat() {
        CHECK.sentence("16: NONE for another what");
        CarrierPaths x = largest();
        for (int what = -60; what < 0; what++) {
            CHECK.is("count " + what, -1, x.count(what));
        }
        CHECK.is("count 8", -1, x.count(8));
        CHECK.is("count 9", -1, x.count(9));
        for (int what = 50; what < 120; what++) {
            CHECK.is("count " + what, -1, x.count(what));
        }
        for (int what : new int[] {Integer.MIN_VALUE, Integer.MIN_VALUE + 8, Integer.MIN_VALUE + 28,
            Integer.MAX_VALUE, 256, 276, 65536, 65556, (1 << 30) + 20}) {
            CHECK.is("count " + what, -1, x.count(what));
        }
    }

    private static void countAnotherRing() {
        CHECK.sentence("16: NONE for another ring");
        for (int rings = 0; rings <= 4; rings++) {
            CarrierPaths x = new CarrierPaths(3);
            for (int r = 0; r < rings; r++) {
                x.ring(7);
            }
            for (int r = 0; r < 10; r++) {
                CHECK.is("ring " + r + " of " + rings, r < rings ? 6 : -1, x.count(10 + r));
            }
        }
    }

    private static void countAnotherPoint() {
        CHECK.sentence("16: NONE for another point");
        for (int points = 2; points <= 10; points++) {
            CarrierPaths x = Edges.circle(points, 1);
            x.carrier(points - 1, 5);
            for (int p = 0; p < 10; p++) {
                boolean is = p < points;
                CHECK.is("places of " + p + " of " + points, is ? 2 : -1, x.count(20 + p));
                int stand = p == points - 1 ? 1 : 0;
                CHECK.is("those at " + p + " of " + points, is ? stand : -1, x.count(30 + p));
                CHECK.is("charger at " + p + " of " + points, is ? 1 : -1, x.count(40 + p));
            }
        }
    }
}
