/** Promise 9 and A STEP: a test of its own for each row, at its very edge, and for their order. */
public final class EdgesStepTest {
    private static final Check CHECK = new Check("EdgesStepTest");

    public static void main(String[] args) {
        noSuchCarrier();
        onAPiece();
        noJob();
        jobBegins();
        jobEnds();
        noWay();
        pieceTaken();
        endFull();
        ringNeedsAPlaceLeft();
        ringThatItIsIn();
        ringsBeside();
        chargeForThePiece();
        chargeForTheWayToACharger();
        noWayToACharger();
        nearestByTime();
        enters();
        theFirstThatIsSo();
        CHECK.end();
    }

    private static void doesNothing(CarrierPaths x, int carrier, int due) {
        String before = Seen.butWays(x);
        CHECK.is("step", due, x.step(carrier));
        CHECK.same("nothing is done at " + due, before, Seen.butWays(x));
    }

    private static void noSuchCarrier() {
        CHECK.sentence("9: IndexOutOfBoundsException if there is no such carrier");
        CarrierPaths x = Edges.circle(4, 10);
        CHECK.outside("there is none", () -> x.step(0));
        for (int carriers = 1; carriers <= 6; carriers++) {
            x.carrier(carriers % 4, 10);
            for (int c : Edges.outside(0, carriers - 1)) {
                CHECK.outside("carrier " + c + " of " + carriers, () -> x.step(c));
            }
            CHECK.is("the last one", 2, x.step(carriers - 1));
        }
    }

    private static void onAPiece() {
        CHECK.sentence("STEP: 1 it is ON a piece (nothing is done)");
        CarrierPaths x = Edges.circle(3, 10);
        x.tick(5);
        Edges.send(x, CHECK, 0, 1, 100);
        doesNothing(x, 0, 1);
        x.tick(14);
        doesNothing(x, 0, 1);
        x.tick(15);
        CHECK.is("it is there", 4, x.step(0));
    }

    private static void noJob() {
        CHECK.sentence("STEP: 2 it has no job (nothing)");
        CarrierPaths x = Edges.circle(3, 10);
        x.carrier(0, 0);
        x.job(0, 1);
        doesNothing(x, 0, 2);
        x.charge(0);
        x.assign();
        x.step(0);
        x.step(0);
        x.tick(10);
        CHECK.is("ends", 4, x.step(0));
        doesNothing(x, 0, 2);
    }

    /** To load needs no way, no place, no charge and no charger. */
    private static void jobBegins() {
        CHECK.sentence("STEP: 3 it stands where its GIVEN job begins: that is LOADED");
        CarrierPaths x = new CarrierPaths(2);
        x.places(0, 1);
        x.ring(1);
        x.carrier(0, 0);
        x.job(0, 1);
        x.assign();
        CHECK.is("loads", 3, x.step(0));
        CHECK.is("the job is LOADED", 2, x.of(0, 2));
        CHECK.is("it has it still", 0, x.look(0, 3));
        CHECK.is("it has ended none", 0, x.look(0, 5));
        CHECK.is("once only", 5, x.step(0));
    }

    private static void jobEnds() {
        CHECK.sentence("STEP: 4 it stands where its LOADED job ends: that is ENDED");
        CarrierPaths x = Edges.circle(2, 10);
        x.carrier(1, 20);
        x.job(0, 1);
        CHECK.is("given", 10, x.assign());
        CHECK.is("a GIVEN job does not end where it leads to", 10, x.step(0));
        x.tick(10);
        CHECK.is("loads", 3, x.step(0));
        CHECK.is("enters", 10, x.step(0));
        x.tick(20);
        x.close(0, true);
        x.close(1, true);
        x.charger(0, false);
        x.charger(1, false);
        CHECK.is("no charge, no way, no charger: it ends", 4, x.step(0));
        CHECK.is("the job is ENDED", 3, x.of(0, 2));
        CHECK.is("the carrier had it", 0, x.of(0, 3));
        CHECK.is("and has it no more", -1, x.look(0, 3));
        CHECK.is("it has ended one", 1, x.look(0, 5));
        CHECK.is("once only", 2, x.step(0));
        CHECK.is("one in all", 1, x.count(5));
    }

    private static void noWay() {
        CHECK.sentence("STEP: 5 there is none (nothing)");
        CarrierPaths x = Edges.circle(3, 10);
        x.carrier(0, 100);
        x.job(1, 0);
        x.assign();
        x.close(0, true);
        doesNothing(x, 0, 5);
        x.close(0, false);
        CHECK.is("a way to its beginning", 10, x.step(0));
        x.tick(10);
        CHECK.is("loads", 3, x.step(0));
        x.close(2, true);
        doesNothing(x, 0, 5);
        x.close(2, false);
        CHECK.is("a way to its end", 10, x.step(0));
    }

    private static void pieceTaken() {
        CHECK.sentence("STEP: 6 another one is ON the piece (nothing)");
        CarrierPaths x = Edges.circle(3, 10);
        x.places(1, 4);
        x.piece(0, 1, 11);
        Edges.send(x, CHECK, 0, 1, 100);
        x.carrier(0, 100);
        x.job(0, 1);
        x.assign();
        CHECK.is("loads", 3, x.step(1));
        doesNothing(x, 1, 6);
        x.tick(9);
        doesNothing(x, 1, 6);
        x.tick(10);
        CHECK.is("it has come to its end", 10, x.step(1));
        CHECK.is("the same piece", 0, x.look(1, 1));
        // With its piece closed THE WAY goes by the one beside it, which is free.
        CarrierPaths y = Edges.circle(3, 10);
        y.places(1, 4);
        y.piece(0, 1, 11);
        Edges.send(y, CHECK, 0, 1, 100);
        y.carrier(0, 100);
        y.job(0, 1);
        y.assign();
        y.step(1);
        y.close(0, true);
        CHECK.is("the piece beside it", 10, y.step(1));
        CHECK.is("that one", 3, y.look(1, 1));
    }

    private static void endFull() {
        CHECK.sentence("STEP: 7 the piece's end is FULL (nothing)");
        for (int places = 1; places <= 4; places++) {
            CarrierPaths x = Edges.circle(3, 10);
            x.places(1, places);
            for (int c = 0; c < places; c++) {
                CHECK.is("stands there", c, x.carrier(1, 100));
            }
            x.carrier(0, 100);
            x.job(0, 1);
            x.assign();
            CHECK.is("loads", 3, x.step(places));
            doesNothing(x, places, 7);
            if (places < 4) {
                x.places(1, places + 1);
                CHECK.is("one place more", 10, x.step(places));
                CHECK.is("FULL again", -1, x.carrier(1, 100));
            }
        }
        fullByOneUnderWay();
    }

    private static void fullByOneUnderWay() {
        CarrierPaths x = Edges.circle(3, 10);
        x.piece(2, 1, 1);
        x.places(1, 1);
        Edges.send(x, CHECK, 2, 1, 100);
        x.carrier(0, 100);
        x.job(0, 1);
        x.assign();
        CHECK.is("loads", 3, x.step(1));
        doesNothing(x, 1, 7);
        x.tick(1);
        doesNothing(x, 1, 7);
        x.step(0);
        x.job(1, 2);
        x.assign();
        x.step(0);
        CHECK.is("the other one leaves", 10, x.step(0));
        CHECK.is("its place is free from when it enters", 10, x.step(1));
    }

    /** Points 1 and 2 are the ring; carrier 0 is to go from 0 over 1 to 2. */
    private static CarrierPaths beforeTheRing(int placesOfOne, int placesOfTwo, int standAtTwo) {
        CarrierPaths x = Edges.circle(4, 10);
        x.ring(0b0110);
        x.places(1, placesOfOne);
        x.places(2, placesOfTwo);
        x.carrier(0, 100);
        x.job(0, 2);
        x.assign();
        CHECK.is("loads", 3, x.step(0));
        for (int c = 1; c <= standAtTwo; c++) {
            CHECK.is("stands at 2", c, x.carrier(2, 100));
        }
        return x;
    }

    private static void ringNeedsAPlaceLeft() {
        CHECK.sentence("STEP: 8 the end is of a ring that has one place FREE or less (nothing)");
        for (int places = 1; places <= 4; places++) {
            CarrierPaths x = beforeTheRing(1, places, places);
            CHECK.is("one free", 1, x.count(10));
            doesNothing(x, 0, 8);
            x.places(1, 2);
            CHECK.is("two free", 2, x.count(10));
            CHECK.is("enters", 10, x.step(0));
            CHECK.is("one is left alone", 1, x.count(10));
        }
        CarrierPaths y = beforeTheRing(1, 2, 1);
        CHECK.is("two free, one of them at another point", 10, y.step(0));
        CarrierPaths z = new CarrierPaths(2);
        z.piece(0, 1, 10);
        z.charger(1, true);
        z.ring(0b10);
        z.places(1, 1);
        z.carrier(0, 100);
        z.job(0, 1);
        z.assign();
        z.step(0);
        doesNothing(z, 0, 8);
    }

    private static void ringThatItIsIn() {
        CHECK.sentence("STEP: 8 a ring of which the piece's beginning is not");
        CarrierPaths x = beforeTheRing(1, 2, 0);
        CHECK.is("enters", 10, x.step(0));
        CHECK.is("another one stands in the ring", 1, x.carrier(2, 100));
        CHECK.is("one free", 1, x.count(10));
        x.tick(10);
        CHECK.is("inside it may take the last place", 10, x.step(0));
        CHECK.is("one free", 1, x.count(10));
        CarrierPaths out = Edges.circle(3, 10);
        out.ring(0b001);
        out.places(0, 1);
        out.carrier(0, 100);
        out.job(0, 1);
        out.assign();
        out.step(0);
        CHECK.is("none free", 0, out.count(10));
        CHECK.is("it may leave a ring", 10, out.step(0));
        CHECK.is("one free", 1, out.count(10));
    }

    /** Each of four rings is the one that stops the carrier, the other three let it pass. */
    private static void ringsBeside() {
        CHECK.sentence("STEP: 8 a ring: any of 4");
        for (int narrow = 0; narrow < 4; narrow++) {
            CarrierPaths x = Edges.circle(4, 10);
            for (int r = 0; r < 4; r++) {
                x.ring(r == narrow ? 0b0010 : 0b0110);
            }
            x.places(1, 1);
            x.carrier(0, 100);
            x.job(0, 1);
            x.assign();
            x.step(0);
            doesNothing(x, 0, 8);
            x.places(1, 2);
            CHECK.is("enters", 10, x.step(0));
        }
        CarrierPaths y = Edges.circle(4, 10);
        y.ring(0b0011);
        y.ring(0b1100);
        y.places(0, 1);
        y.places(1, 1);
        y.places(2, 1);
        y.places(3, 1);
        y.carrier(0, 100);
        y.carrier(2, 100);
        y.job(0, 1);
        y.assign();
        y.step(0);
        CHECK.is("one free where it is", 1, y.count(10));
        CHECK.is("one free where it does not go", 1, y.count(11));
        CHECK.is("none of these stops it", 10, y.step(0));
    }

    private static CarrierPaths loadedWith(int charge, int time) {
        CarrierPaths x = new CarrierPaths(3);
        x.piece(0, 1, time);
        x.carrier(0, charge);
        x.job(0, 1);
        x.assign();
        CHECK.is("loads", 3, x.step(0));
        return x;
    }

    private static void chargeForThePiece() {
        CHECK.sentence("STEP: 9 its CHARGE is less than the piece's time (nothing)");
        for (int time : new int[] {1, 2, 99, 100}) {
            CarrierPaths less = loadedWith(time - 1, time);
            less.charger(1, true);
            doesNothing(less, 0, 9);
            CarrierPaths enough = loadedWith(time, time);
            enough.charger(1, true);
            CHECK.is("just enough to a charger at the end", 10, enough.step(0));
            CHECK.is("nothing is left", 0, enough.look(0, 4));
        }
    }

    private static void chargeForTheWayToACharger() {
        CHECK.sentence("STEP: 9 and the time of THE WAY from its end to the nearest CHARGER");
        for (int far : new int[] {1, 50, 100}) {
            CarrierPaths less = loadedWith(29 + far, 30);
            less.piece(1, 2, far);
            less.charger(2, true);
            doesNothing(less, 0, 9);
            less.charger(1, true);
            CHECK.is("one at the end itself", 10, less.step(0));
            CarrierPaths enough = loadedWith(30 + far, 30);
            enough.piece(1, 2, far);
            enough.charger(2, true);
            CHECK.is("just enough", 10, enough.step(0));
            CHECK.is("enough to go on to it", far, enough.look(0, 4));
        }
        longestWayToACharger();
    }

    /** The whole circle, 10 pieces of 100, is just what a full charge reaches. */
    private static void longestWayToACharger() {
        for (int charge = 999; charge <= 1000; charge++) {
            CarrierPaths x = new CarrierPaths(10);
            for (int p = 0; p < 10; p++) {
                x.piece(p, (p + 1) % 10, 100);
            }
            x.charger(0, true);
            x.carrier(0, charge);
            x.job(0, 1);
            x.assign();
            x.step(0);
            CHECK.is("charge " + charge + " for 1000", charge == 1000 ? 10 : 9, x.step(0));
        }
    }

    private static void noWayToACharger() {
        CHECK.sentence("STEP: 9 (or there is no way to one) (nothing)");
        CarrierPaths x = loadedWith(1000, 1);
        doesNothing(x, 0, 9);
        x.charger(0, true);
        doesNothing(x, 0, 9);
        x.charger(2, true);
        doesNothing(x, 0, 9);
        x.piece(1, 2, 1);
        x.close(1, true);
        doesNothing(x, 0, 9);
        x.close(1, false);
        CHECK.is("a way", 10, x.step(0));
    }

    private static void nearestByTime() {
        CHECK.sentence("STEP: 9 the nearest CHARGER by time");
        CarrierPaths x = new CarrierPaths(5);
        x.piece(0, 1, 10);
        x.piece(1, 2, 40);
        x.piece(1, 3, 15);
        x.piece(3, 4, 15);
        x.charger(2, true);
        x.charger(4, true);
        x.carrier(0, 39);
        x.job(0, 1);
        x.assign();
        x.step(0);
        doesNothing(x, 0, 9);
        x.piece(3, 4, 14);
        CHECK.is("two pieces in 29, not one in 40", 10, x.step(0));
        CarrierPaths y = new CarrierPaths(5);
        y.piece(0, 1, 10);
        y.piece(1, 4, 29);
        y.piece(1, 2, 40);
        y.charger(4, true);
        y.charger(2, true);
        y.carrier(0, 39);
        y.job(0, 1);
        y.assign();
        y.step(0);
        CHECK.is("the greater point is nearer", 10, y.step(0));
    }

    private static void enters() {
        CHECK.sentence("STEP: 10 it enters the piece");
        CarrierPaths x = Edges.circle(3, 10);
        x.tick(7);
        x.carrier(0, 30);
        x.job(1, 2);
        x.assign();
        CHECK.is("enters", 10, x.step(0));
        CHECK.is("it is under way to", 1, x.look(0, 0));
        CHECK.is("ON piece", 0, x.look(0, 1));
        CHECK.is("it comes", 17, x.look(0, 2));
        CHECK.is("its charge", 20, x.look(0, 4));
        CHECK.is("without a LOADED job", 10, x.look(0, 6));
        CHECK.is("nobody at its beginning", 0, x.count(30));
        CHECK.is("one to its end", 1, x.count(31));
        CHECK.is("pieces ON which one is", 1, x.count(6));
        CHECK.is("its job is GIVEN still", 1, x.of(0, 2));
        CHECK.is("NOW", 7, x.count(4));
    }

    /**
     * Carrier 1 stands loaded at 0 with all reasons against it at once: carrier 0 is ON its piece,
     * the end is FULL, the ring has no place FREE and its charge is 0. One reason after the other
     * is taken away.
     */
    private static void theFirstThatIsSo() {
        CHECK.sentence("STEP: does the first of these that is so");
        CarrierPaths x = new CarrierPaths(3);
        x.piece(0, 1, 10);
        x.ring(0b010);
        x.places(1, 2);
        x.charger(1, true);
        Edges.send(x, CHECK, 0, 1, 10);
        x.places(1, 1);
        x.carrier(0, 0);
        x.job(0, 1);
        CHECK.is("2 before 6 to 9", 2, x.step(1));
        CHECK.is("given", 0, x.assign());
        CHECK.is("3 before 6 to 9", 3, x.step(1));
        x.close(0, true);
        CHECK.is("5 before 6 to 9", 5, x.step(1));
        x.close(0, false);
        CHECK.is("6 before 7 to 9", 6, x.step(1));
        x.places(1, 2);
        CHECK.is("6 before 8 and 9", 6, x.step(1));
        x.places(1, 3);
        CHECK.is("6 before 9", 6, x.step(1));
        x.places(1, 1);
        x.tick(10);
        CHECK.is("7 before 8 and 9", 7, x.step(1));
        x.places(1, 2);
        CHECK.is("8 before 9", 8, x.step(1));
        x.places(1, 3);
        CHECK.is("9 alone", 9, x.step(1));
        x.charger(0, true);
        CHECK.yes("charged", x.charge(1));
        CHECK.is("none is so", 10, x.step(1));
        CHECK.is("1 before all", 1, x.step(1));
    }
}
