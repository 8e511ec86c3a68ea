/** Promises 1 to 7: a test of its own for each sentence that names a boundary case. */
public final class EdgesBuildTest {
    private static final Check CHECK = new Check("EdgesBuildTest");

    public static void main(String[] args) {
        newObject();
        piece();
        places();
        charger();
        ring();
        carrier();
        job();
        CHECK.end();
    }

    private static void newObject() {
        tooFewPoints();
        tooManyPoints();
        asManyPointsAsAsked();
        nothingAtFirst();
    }

    /** Points are looked at by every call that takes one, so that no row is longer or shorter. */
    private static void hasPoints(String what, int wanted, int due) {
        CarrierPaths x = new CarrierPaths(wanted);
        int last = due - 1;
        CHECK.is(what + ": counted", due, x.count(0));
        CHECK.is(what + ": the last one leads on", 0, x.piece(last, 0, 1));
        CHECK.is(what + ": and is led to", 1, x.piece(0, last, 1));
        CHECK.yes(what + ": it has places", x.places(last, 3));
        CHECK.yes(what + ": it may have a charger", x.charger(last, true));
        CHECK.is(what + ": it may be in a ring", 1, x.ring(1 << last));
        CHECK.is(what + ": a carrier may stand there", 0, x.carrier(last, 5));
        CHECK.is(what + ": a job may begin there", 0, x.job(last, 0));
        CHECK.is(what + ": there is a way to it", 1, x.way(0, last, 0));
        CHECK.illegal(what + ": none behind it leads on", () -> x.piece(due, 0, 1));
        CHECK.illegal(what + ": none behind it is led to", () -> x.piece(0, due, 1));
        CHECK.no(what + ": none behind it has places", x.places(due, 3));
        CHECK.no(what + ": none behind it has a charger", x.charger(due, true));
        CHECK.illegal(what + ": none behind it is in a ring", () -> x.ring(1 << due));
        CHECK.illegal(what + ": nobody stands behind it", () -> x.carrier(due, 5));
        CHECK.illegal(what + ": no job begins behind it", () -> x.job(due, 0));
        CHECK.illegal(what + ": no way behind it", () -> x.way(0, due, 0));
    }

    private static void tooFewPoints() {
        CHECK.sentence("1: points (2 .. 10, held to that), too few");
        for (int wanted : new int[] {1, 0, -1, -2, -10, Integer.MIN_VALUE, Integer.MIN_VALUE + 1}) {
            hasPoints("asked for " + wanted, wanted, 2);
        }
    }

    private static void tooManyPoints() {
        CHECK.sentence("1: points (2 .. 10, held to that), too many");
        for (int wanted : new int[] {11, 12, 31, 32, 100, 65536, Integer.MAX_VALUE}) {
            hasPoints("asked for " + wanted, wanted, 10);
        }
    }

    private static void asManyPointsAsAsked() {
        CHECK.sentence("1: So many points");
        for (int wanted = 2; wanted <= 10; wanted++) {
            hasPoints("asked for " + wanted, wanted, wanted);
        }
    }

    private static void nothingAtFirst() {
        CHECK.sentence("1: no pieces; PLACES 2 at first; NOW 0 at first");
        for (int points = 2; points <= 10; points += 8) {
            CarrierPaths x = new CarrierPaths(points);
            for (int what = 1; what <= 7; what++) {
                CHECK.is("count " + what, 0, x.count(what));
            }
            CHECK.is("a way", -1, x.way(0, 1, 0));
            CHECK.no("a piece to close", x.close(0, true));
            for (int p = 0; p < points; p++) {
                CHECK.is("places of " + p, 2, x.count(20 + p));
                CHECK.is("those at " + p, 0, x.count(30 + p));
                CHECK.is("a charger at " + p, 0, x.count(40 + p));
            }
            CHECK.outside("a carrier", () -> x.look(0, 0));
            CHECK.outside("a job", () -> x.of(0, 0));
            CHECK.is("a ring", -1, x.count(10));
        }
    }

    private static void piece() {
        pieceNumbers();
        pieceWithoutSuchPoints();
        pieceToTheSamePoint();
        pieceTimes();
        pieceOpenAtFirst();
        piecesAreThirty();
        pieceToldFirst();
    }

    private static void pieceNumbers() {
        CHECK.sentence("2: One more piece: its number");
        CarrierPaths x = new CarrierPaths(3);
        CHECK.is("the first one", 0, x.piece(0, 1, 7));
        CHECK.is("the same once more", 1, x.piece(0, 1, 7));
        CHECK.illegal("one that can't be", () -> x.piece(0, 1, 0));
        CHECK.is("it took no number", 2, x.piece(1, 0, 7));
        x.close(2, true);
        CHECK.is("a closed one keeps its number", 3, x.piece(1, 2, 7));
        CHECK.is("counted", 4, x.count(1));
    }

    private static void pieceWithoutSuchPoints() {
        CHECK.sentence("2: IllegalArgumentException if there are no such points");
        for (int points : new int[] {2, 7, 10}) {
            CarrierPaths x = new CarrierPaths(points);
            for (int p : Edges.outside(0, points - 1)) {
                CHECK.illegal("from " + p, () -> x.piece(p, 0, 1));
                CHECK.illegal("to " + p, () -> x.piece(0, p, 1));
                CHECK.illegal("from and to " + p, () -> x.piece(p, p, 1));
            }
            CHECK.is("none came to be", 0, x.count(1));
        }
    }

    private static void pieceToTheSamePoint() {
        CHECK.sentence("2: IllegalArgumentException if they are the same");
        CarrierPaths x = new CarrierPaths(10);
        for (int p = 0; p < 10; p++) {
            int point = p;
            CHECK.illegal("at " + p, () -> x.piece(point, point, 50));
        }
        CHECK.is("none came to be", 0, x.count(1));
    }

    private static void pieceTimes() {
        CHECK.sentence("2: IllegalArgumentException if the time can't be (1 .. 100)");
        CarrierPaths x = new CarrierPaths(3);
        for (int time : Edges.outside(1, 100)) {
            CHECK.illegal("time " + time, () -> x.piece(0, 1, time));
        }
        CHECK.is("none came to be", 0, x.count(1));
        CHECK.is("the longest", 0, x.piece(0, 1, 100));
        CHECK.is("it is 100", 100, x.way(0, 1, 0));
        CHECK.is("the shortest", 1, x.piece(1, 2, 1));
        CHECK.is("it is 1", 1, x.way(1, 2, 0));
    }

    private static void pieceOpenAtFirst() {
        CHECK.sentence("Terms: PIECES are open at first");
        CarrierPaths x = new CarrierPaths(2);
        x.piece(0, 1, 3);
        x.close(0, true);
        x.piece(0, 1, 4);
        CHECK.no("to open it is refused", x.close(1, false));
        CHECK.is("the way goes along it", 1, x.way(0, 1, 1));
    }

    private static CarrierPaths thirtyPieces() {
        CarrierPaths x = new CarrierPaths(10);
        for (int n = 0; n < 30; n++) {
            CHECK.is("piece", n, x.piece(n % 10, (n + 1 + n / 10) % 10, 100 - n));
        }
        return x;
    }

    private static void piecesAreThirty() {
        CHECK.sentence("2: IllegalStateException if there are 30");
        CarrierPaths x = thirtyPieces();
        CHECK.tooMany("one more", () -> x.piece(0, 1, 1));
        CHECK.tooMany("the longest", () -> x.piece(9, 0, 100));
        CHECK.is("still 30", 30, x.count(1));
        CHECK.yes("the last one closes", x.close(29, true));
        CHECK.tooMany("a closed one is a piece still", () -> x.piece(0, 1, 1));
        CHECK.is("the ways are as before", 100, x.way(0, 1, 0));
        CHECK.no("there is no piece 30", x.close(30, true));
    }

    private static void pieceToldFirst() {
        CHECK.sentence("2: Of several exceptions the one told first is thrown");
        CarrierPaths x = thirtyPieces();
        CHECK.illegal("from -1, and 30", () -> x.piece(-1, 0, 1));
        CHECK.illegal("to 10, and 30", () -> x.piece(0, 10, 1));
        CHECK.illegal("the same, and 30", () -> x.piece(4, 4, 1));
        CHECK.illegal("time 0, and 30", () -> x.piece(0, 1, 0));
        CHECK.illegal("time 101, and 30", () -> x.piece(0, 1, 101));
    }

    private static void places() {
        placesOneToFour();
        placesWithoutSuchPoint();
        placesForThoseThatStandThere();
        placesForThoseOnAPieceToIt();
    }

    private static void placesOneToFour() {
        CHECK.sentence("3: false if it is not 1 .. 4");
        CarrierPaths x = new CarrierPaths(2);
        for (int n = 1; n <= 4; n++) {
            CHECK.yes(n + " places", x.places(1, n));
            CHECK.is("so many", n, x.count(21));
            CHECK.yes(n + " places again", x.places(1, n));
            for (int wrong : Edges.outside(1, 4)) {
                CHECK.no(wrong + " places", x.places(1, wrong));
            }
            CHECK.is("still so many", n, x.count(21));
        }
        CHECK.is("the other point's are as at first", 2, x.count(20));
    }

    private static void placesWithoutSuchPoint() {
        CHECK.sentence("3: false if there is no such point");
        for (int points : new int[] {2, 7, 10}) {
            CarrierPaths x = new CarrierPaths(points);
            for (int p : Edges.outside(0, points - 1)) {
                CHECK.no("point " + p, x.places(p, 2));
            }
            CHECK.yes("the first point", x.places(0, 1));
            CHECK.yes("the last point", x.places(points - 1, 4));
            CHECK.is("the first point's", 1, x.count(20));
            CHECK.is("the last point's", 4, x.count(20 + points - 1));
        }
    }

    private static void placesForThoseThatStandThere() {
        CHECK.sentence("3: false if fewer than stand there");
        for (int standing = 0; standing <= 4; standing++) {
            for (int n = 1; n <= 4; n++) {
                CarrierPaths x = new CarrierPaths(3);
                x.places(1, 4);
                for (int c = 0; c < standing; c++) {
                    x.carrier(1, 10);
                }
                x.carrier(2, 10);
                String what = n + " places for " + standing;
                CHECK.is(what, n >= standing ? 1 : 0, x.places(1, n) ? 1 : 0);
                CHECK.is(what + ", then", n >= standing ? n : 4, x.count(21));
            }
        }
    }

    private static void placesForThoseOnAPieceToIt() {
        CHECK.sentence("3: false if fewer than are ON a piece to it");
        CarrierPaths x = Edges.circle(3, 10);
        x.piece(2, 1, 50);
        Edges.send(x, CHECK, 0, 1, 100);
        CHECK.yes("one is ON a piece to it", x.places(1, 1));
        CHECK.yes("three", x.places(1, 3));
        x.close(2, true);
        Edges.send(x, CHECK, 2, 1, 100);
        CHECK.no("two are ON pieces to it", x.places(1, 1));
        CHECK.yes("as many as they are", x.places(1, 2));
        CHECK.yes("what they left has none", x.places(0, 1));
        CHECK.is("one comes", 1, x.tick(10));
        CHECK.no("one stands there, one is ON a piece to it", x.places(1, 1));
        CHECK.is("the other one comes", 1, x.tick(50));
        CHECK.no("two stand there", x.places(1, 1));
        CHECK.is("still two", 2, x.count(21));
    }

    private static void charger() {
        chargerWithoutSuchPoint();
        chargerAsItIs();
    }

    private static void chargerWithoutSuchPoint() {
        CHECK.sentence("4: false if there is no such point");
        for (int points : new int[] {2, 7, 10}) {
            CarrierPaths x = new CarrierPaths(points);
            for (int p : Edges.outside(0, points - 1)) {
                CHECK.no("at " + p, x.charger(p, true));
                CHECK.no("not at " + p, x.charger(p, false));
            }
            for (int p = 0; p < points; p++) {
                CHECK.is("none at " + p, 0, x.count(40 + p));
            }
        }
    }

    private static void chargerAsItIs() {
        CHECK.sentence("4: false if it is so");
        CarrierPaths x = new CarrierPaths(10);
        for (int p = 0; p < 10; p++) {
            CHECK.no("none, at first, at " + p, x.charger(p, false));
            CHECK.yes("one at " + p, x.charger(p, true));
            CHECK.no("one again at " + p, x.charger(p, true));
            CHECK.is("it is there, at " + p, 1, x.count(40 + p));
            CHECK.is("and not at the next", p == 9 ? -1 : 0, x.count(41 + p));
        }
        CHECK.yes("none at 9", x.charger(9, false));
        CHECK.no("none again at 9", x.charger(9, false));
        CHECK.is("it is gone", 0, x.count(49));
        CHECK.is("the one before stays", 1, x.count(48));
    }

    private static void ring() {
        ringOfNoPoint();
        ringOfBitsThatAreNoPoint();
        ringsAreCounted();
        ringsAreFour();
        ringToldFirst();
    }

    private static void ringOfNoPoint() {
        CHECK.sentence("5: IllegalArgumentException if there is none");
        for (int points = 2; points <= 10; points++) {
            CarrierPaths x = new CarrierPaths(points);
            CHECK.illegal("no bit", () -> x.ring(0));
            CHECK.is("no ring", 0, x.count(7));
        }
    }

    private static void ringOfBitsThatAreNoPoint() {
        CHECK.sentence("5: IllegalArgumentException if a bit is no point");
        for (int points = 2; points <= 10; points++) {
            CarrierPaths x = new CarrierPaths(points);
            int all = (1 << points) - 1;
            for (int bit = points; bit < 32; bit++) {
                int wrong = 1 << bit;
                CHECK.illegal("bit " + bit, () -> x.ring(wrong));
                CHECK.illegal("bit " + bit + " beside a point's", () -> x.ring(wrong | 1));
                CHECK.illegal("bit " + bit + " beside all points'", () -> x.ring(wrong | all));
            }
            CHECK.illegal("all bits", () -> x.ring(-1));
            CHECK.illegal("all but the sign", () -> x.ring(Integer.MAX_VALUE));
            CHECK.is("no ring", 0, x.count(7));
            CHECK.is("all points", 1, x.ring(all));
            CHECK.is("the last point", 2, x.ring(1 << (points - 1)));
            CHECK.is("free in all", 2 * points, x.count(10));
            CHECK.is("free at the last point", 2, x.count(11));
        }
    }

    private static void ringsAreCounted() {
        CHECK.sentence("5: how many there are");
        CarrierPaths x = new CarrierPaths(4);
        CHECK.is("the first one, of three points", 1, x.ring(0b0111));
        CHECK.is("the same once more", 2, x.ring(0b0111));
        CHECK.illegal("one that can't be", () -> x.ring(0));
        CHECK.is("it did not count", 3, x.ring(0b1000));
        CHECK.is("counted", 3, x.count(7));
    }

    private static void ringsAreFour() {
        CHECK.sentence("5: IllegalStateException if there are 4");
        CarrierPaths x = new CarrierPaths(10);
        for (int n = 0; n < 4; n++) {
            CHECK.is("ring", n + 1, x.ring(3 << n));
        }
        CHECK.tooMany("a fifth one", () -> x.ring(1));
        CHECK.tooMany("one that there is", () -> x.ring(3));
        CHECK.is("still 4", 4, x.count(7));
        CHECK.is("no ring behind them", -1, x.count(14));
    }

    private static void ringToldFirst() {
        CHECK.sentence("5: Of several exceptions the one told first is thrown");
        CarrierPaths x = new CarrierPaths(3);
        for (int n = 0; n < 4; n++) {
            x.ring(7);
        }
        CHECK.illegal("no point, and 4", () -> x.ring(0));
        CHECK.illegal("a bit that is no point, and 4", () -> x.ring(8));
        CHECK.illegal("the sign, and 4", () -> x.ring(Integer.MIN_VALUE));
    }

    private static void carrier() {
        carrierNumbers();
        carrierWhereItIsFull();
        carrierWithoutSuchPoint();
        carrierWithoutSuchCharge();
        carriersAreSix();
        carrierToldFirst();
    }

    private static void carrierNumbers() {
        CHECK.sentence("6: A carrier at a point, with a CHARGE: its number");
        CarrierPaths x = new CarrierPaths(2);
        x.places(1, 1);
        CHECK.is("the first one", 0, x.carrier(1, 7));
        CHECK.is("where it is FULL", -1, x.carrier(1, 8));
        CHECK.illegal("one that can't be", () -> x.carrier(0, -1));
        CHECK.is("these took no number", 1, x.carrier(0, 9));
        CHECK.is("where the first one stands", 1, x.look(0, 0));
        CHECK.is("the first one's charge", 7, x.look(0, 4));
        CHECK.is("where the second one stands", 0, x.look(1, 0));
        CHECK.is("the second one's charge", 9, x.look(1, 4));
        CHECK.is("counted", 2, x.count(2));
    }

    private static void carrierWhereItIsFull() {
        CHECK.sentence("6: NONE if the point is FULL");
        for (int places = 1; places <= 4; places++) {
            CarrierPaths x = Edges.circle(3, 10);
            x.places(1, places);
            CHECK.is("one under way to it", 0, Edges.send(x, CHECK, 0, 1, 100));
            for (int c = 1; c < places; c++) {
                CHECK.is("a place of " + places, c, x.carrier(1, 100));
            }
            CHECK.is("no place of " + places, -1, x.carrier(1, 100));
            x.tick(10);
            CHECK.is("when all stand there", -1, x.carrier(1, 100));
            CHECK.is("so many carriers", places, x.count(2));
            CHECK.is("the point that it left is not FULL", places, x.carrier(0, 100));
        }
    }

    private static void carrierWithoutSuchPoint() {
        CHECK.sentence("6: IllegalArgumentException if there is no such point");
        for (int points : new int[] {2, 7, 10}) {
            CarrierPaths x = new CarrierPaths(points);
            for (int p : Edges.outside(0, points - 1)) {
                CHECK.illegal("at " + p, () -> x.carrier(p, 10));
            }
            CHECK.is("none came to be", 0, x.count(2));
            CHECK.is("at the first point", 0, x.carrier(0, 10));
            CHECK.is("at the last point", 1, x.carrier(points - 1, 10));
        }
    }

    private static void carrierWithoutSuchCharge() {
        CHECK.sentence("6: IllegalArgumentException if there is no such charge (0 .. 1000)");
        CarrierPaths x = new CarrierPaths(2);
        for (int charge : Edges.outside(0, 1000)) {
            CHECK.illegal("charge " + charge, () -> x.carrier(0, charge));
        }
        CHECK.is("none came to be", 0, x.count(2));
        CHECK.is("the least", 0, x.carrier(0, 0));
        CHECK.is("it is 0", 0, x.look(0, 4));
        CHECK.is("the most", 1, x.carrier(0, 1000));
        CHECK.is("it is 1000", 1000, x.look(1, 4));
    }

    private static CarrierPaths sixCarriers() {
        CarrierPaths x = new CarrierPaths(4);
        for (int c = 0; c < 6; c++) {
            CHECK.is("carrier", c, x.carrier(c / 2, 10 * c));
        }
        return x;
    }

    private static void carriersAreSix() {
        CHECK.sentence("6: IllegalStateException if there are 6");
        CarrierPaths x = sixCarriers();
        CHECK.tooMany("a seventh one", () -> x.carrier(3, 10));
        CHECK.tooMany("where it is FULL", () -> x.carrier(0, 10));
        CHECK.is("still 6", 6, x.count(2));
        CHECK.is("nobody came there", 0, x.count(33));
        CHECK.is("the last one", 50, x.look(5, 4));
        CHECK.outside("there is no carrier 6", () -> x.look(6, 0));
    }

    private static void carrierToldFirst() {
        CHECK.sentence("6: Of several exceptions the one told first is thrown");
        CarrierPaths x = sixCarriers();
        CHECK.illegal("no such point, and 6", () -> x.carrier(4, 10));
        CHECK.illegal("charge -1, and 6", () -> x.carrier(3, -1));
        CHECK.illegal("charge 1001, FULL, and 6", () -> x.carrier(0, 1001));
        CarrierPaths y = new CarrierPaths(2);
        y.carrier(0, 1);
        y.carrier(0, 1);
        CHECK.illegal("charge 1001, and FULL", () -> y.carrier(0, 1001));
    }

    private static void job() {
        jobNumbers();
        jobWithoutSuchPoints();
        jobToTheSamePoint();
        jobsAreTwelve();
        jobToldFirst();
    }

    private static void jobNumbers() {
        CHECK.sentence("7: A JOB: its number");
        CarrierPaths x = new CarrierPaths(2);
        CHECK.is("the first one", 0, x.job(0, 1));
        CHECK.illegal("one that can't be", () -> x.job(0, 0));
        CHECK.is("it took no number", 1, x.job(1, 0));
        CHECK.is("the same once more", 2, x.job(1, 0));
        CHECK.is("counted", 3, x.count(3));
    }

    private static void jobWithoutSuchPoints() {
        CHECK.sentence("7: IllegalArgumentException if there are no such points");
        for (int points : new int[] {2, 7, 10}) {
            CarrierPaths x = new CarrierPaths(points);
            for (int p : Edges.outside(0, points - 1)) {
                CHECK.illegal("from " + p, () -> x.job(p, 0));
                CHECK.illegal("to " + p, () -> x.job(0, p));
                CHECK.illegal("from and to " + p, () -> x.job(p, p));
            }
            CHECK.is("none came to be", 0, x.count(3));
            CHECK.is("from the last point", 0, x.job(points - 1, 0));
            CHECK.is("to the last point", 1, x.job(0, points - 1));
        }
    }

    private static void jobToTheSamePoint() {
        CHECK.sentence("7: IllegalArgumentException if they are the same");
        CarrierPaths x = new CarrierPaths(10);
        for (int p = 0; p < 10; p++) {
            int point = p;
            CHECK.illegal("at " + p, () -> x.job(point, point));
        }
        CHECK.is("none came to be", 0, x.count(3));
    }

    private static CarrierPaths twelveJobs() {
        CarrierPaths x = Edges.circle(10, 1);
        for (int j = 0; j < 12; j++) {
            CHECK.is("job", j, x.job(j % 10, (j + 1) % 10));
        }
        return x;
    }

    private static void jobsAreTwelve() {
        CHECK.sentence("7: IllegalStateException if there are 12");
        CarrierPaths x = twelveJobs();
        CHECK.tooMany("a thirteenth one", () -> x.job(3, 4));
        CHECK.is("still 12", 12, x.count(3));
        x.carrier(0, 100);
        x.assign();
        x.step(0);
        x.step(0);
        x.tick(1);
        CHECK.is("one ends", 4, x.step(0));
        CHECK.tooMany("one that ended is a job still", () -> x.job(3, 4));
        CHECK.is("the last one", 1, x.of(11, 0));
        CHECK.outside("there is no job 12", () -> x.of(12, 0));
    }

    private static void jobToldFirst() {
        CHECK.sentence("7: Of several exceptions the one told first is thrown");
        CarrierPaths x = twelveJobs();
        CHECK.illegal("from -1, and 12", () -> x.job(-1, 0));
        CHECK.illegal("to 10, and 12", () -> x.job(0, 10));
        CHECK.illegal("the same, and 12", () -> x.job(5, 5));
    }
}
