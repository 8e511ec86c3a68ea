/** Promises 6 (carrier), 10 (tick), 12 (charge) and 14 (look). */
public final class CarriersTest {
    private static final Check CHECK = new Check("CarriersTest");

    public static void main(String[] args) {
        carrier();
        carrierLimits();
        fullByOneUnderWay();
        tick();
        tickLimits();
        tickAtTheEndOfTime();
        charge();
        look();
        lookOutside();
        CHECK.end();
    }

    /** A yard where carrier 0 has a job from 0 to 1 and stands loaded at 0. */
    private static CarrierPaths loadedYard(int time) {
        CarrierPaths x = new CarrierPaths(3);
        x.piece(0, 1, time);
        x.charger(1, true);
        x.carrier(0, 500);
        x.job(0, 1);
        x.assign();
        CHECK.is("loads", 3, x.step(0));
        return x;
    }

    private static void carrier() {
        CarrierPaths x = new CarrierPaths(3);
        CHECK.illegal("point -1", () -> x.carrier(-1, 5));
        CHECK.illegal("point 3", () -> x.carrier(3, 5));
        CHECK.illegal("point MAX", () -> x.carrier(Integer.MAX_VALUE, 5));
        CHECK.illegal("charge -1", () -> x.carrier(0, -1));
        CHECK.illegal("charge 1001", () -> x.carrier(0, 1001));
        CHECK.illegal("charge MIN", () -> x.carrier(0, Integer.MIN_VALUE));
        CHECK.is("none yet", 0, x.count(2));
        CHECK.is("charge 0", 0, x.carrier(0, 0));
        CHECK.is("charge 1000", 1, x.carrier(0, 1000));
        CHECK.is("the point is FULL", -1, x.carrier(0, 5));
        CHECK.illegal("FULL, and no such charge", () -> x.carrier(0, 1001));
        CHECK.is("what is refused changes nothing", 2, x.count(2));
        CHECK.yes("one place more", x.places(0, 3));
        CHECK.is("now there is one", 2, x.carrier(0, 5));
        CHECK.is("elsewhere", 3, x.carrier(2, 5));
        CHECK.is("three stand there", 3, x.count(30));
        CHECK.is("one stands there", 1, x.count(32));
    }

    private static void carrierLimits() {
        CarrierPaths x = new CarrierPaths(4);
        for (int n = 0; n < 6; n++) {
            CHECK.is("carrier", n, x.carrier(n / 2, 10));
        }
        CHECK.tooMany("a seventh one", () -> x.carrier(3, 10));
        CHECK.tooMany("a seventh one where it is FULL", () -> x.carrier(0, 10));
        CHECK.illegal("no such point is told first", () -> x.carrier(4, 10));
        CHECK.illegal("no such charge is told first", () -> x.carrier(3, 1001));
        CHECK.is("still 6", 6, x.count(2));
        CHECK.is("the sixth one", 2, x.look(5, 0));
    }

    private static void fullByOneUnderWay() {
        CarrierPaths x = loadedYard(5);
        x.places(1, 1);
        CHECK.is("enters", 10, x.step(0));
        CHECK.is("one is ON a piece to it", -1, x.carrier(1, 5));
        CHECK.is("its beginning is left", 1, x.carrier(0, 5));
        CHECK.is("both places there", 2, x.carrier(0, 5));
        CHECK.is("FULL", -1, x.carrier(0, 5));
    }

    private static void tick() {
        CarrierPaths x = loadedYard(7);
        CHECK.is("time goes", 0, x.tick(10));
        CHECK.is("enters", 10, x.step(0));
        CHECK.is("when it comes", 17, x.look(0, 2));
        CHECK.is("the same time", 0, x.tick(10));
        CHECK.is("not yet", 0, x.tick(16));
        CHECK.is("still ON it", 0, x.look(0, 1));
        CHECK.is("now", 1, x.tick(17));
        CHECK.is("not again", 0, x.tick(17));
        CHECK.is("no more ON it", -1, x.look(0, 1));
        CHECK.is("no more when", -1, x.look(0, 2));
        CHECK.is("at its end", 1, x.look(0, 0));
        CHECK.is("NOW", 17, x.count(4));

        CarrierPaths two = new CarrierPaths(3);
        two.piece(0, 1, 5);
        two.piece(2, 1, 9);
        two.charger(1, true);
        two.carrier(0, 100);
        two.carrier(2, 100);
        two.job(0, 1);
        two.job(2, 1);
        two.assign();
        for (int c = 0; c < 2; c++) {
            CHECK.is("loads", 3, two.step(c));
            CHECK.is("enters", 10, two.step(c));
        }
        CHECK.is("both, long after", 2, two.tick(100));
    }

    private static void tickLimits() {
        CarrierPaths x = loadedYard(7);
        CHECK.is("enters", 10, x.step(0));
        CHECK.is("5", 0, x.tick(5));
        CHECK.illegal("before NOW", () -> x.tick(4));
        CHECK.illegal("below 0", () -> x.tick(-1));
        CHECK.illegal("MIN", () -> x.tick(Integer.MIN_VALUE));
        CHECK.illegal("1000001", () -> x.tick(1000001));
        CHECK.illegal("MAX", () -> x.tick(Integer.MAX_VALUE));
        CHECK.is("NOW as before", 5, x.count(4));
        CHECK.is("nobody came", 0, x.look(0, 1));
        CHECK.is("the last time", 1, x.tick(1000000));
        CHECK.is("NOW is the last time", 1000000, x.count(4));
        CHECK.is("once more", 0, x.tick(1000000));
        CHECK.illegal("0 is before it", () -> x.tick(0));
    }

    private static void tickAtTheEndOfTime() {
        CarrierPaths x = loadedYard(100);
        x.tick(999950);
        CHECK.is("enters", 10, x.step(0));
        CHECK.is("it would come later than there is time", 1000050, x.look(0, 2));
        CHECK.is("it does not", 0, x.tick(1000000));
        CHECK.is("is ON it for good", 1, x.step(0));
    }

    private static void charge() {
        CarrierPaths x = loadedYard(7);
        CHECK.outside("carrier 1", () -> x.charge(1) ? 1 : 0);
        CHECK.outside("carrier -1", () -> x.charge(-1) ? 1 : 0);
        CHECK.outside("carrier MAX", () -> x.charge(Integer.MAX_VALUE) ? 1 : 0);
        CHECK.no("no charger at 0", x.charge(0));
        CHECK.is("as before", 500, x.look(0, 4));
        CHECK.is("enters", 10, x.step(0));
        CHECK.is("less the piece's time", 493, x.look(0, 4));
        CHECK.no("under way to the charger", x.charge(0));
        x.charger(0, true);
        CHECK.no("under way from a charger", x.charge(0));
        CHECK.is("as before", 493, x.look(0, 4));
        x.tick(7);
        CHECK.yes("at the charger", x.charge(0));
        CHECK.is("charged", 1000, x.look(0, 4));
        CHECK.yes("once more", x.charge(0));
        x.charger(1, false);
        CHECK.no("the charger is gone", x.charge(0));
    }

    private static void looks(CarrierPaths x, String when, int... dues) {
        for (int what = 0; what < dues.length; what++) {
            CHECK.is("look, " + when + ", what " + what, dues[what], x.look(0, what));
        }
    }

    private static void look() {
        CarrierPaths x = new CarrierPaths(4);
        x.piece(3, 0, 1);
        x.piece(0, 1, 5);
        x.piece(1, 2, 20);
        x.piece(2, 3, 3);
        x.charger(3, true);
        x.carrier(0, 100);
        looks(x, "new", 0, -1, -1, -1, 100, 0, 0);
        x.job(2, 1);
        x.job(1, 2);
        CHECK.is("both wait, 1 is nearer", 5, x.assign());
        looks(x, "given", 0, -1, -1, 1, 100, 0, 0);
        x.tick(1000);
        CHECK.is("enters", 10, x.step(0));
        looks(x, "under way empty", 1, 1, 1005, 1, 95, 0, 5);
        x.tick(1005);
        looks(x, "there", 1, -1, -1, 1, 95, 0, 5);
        CHECK.is("loads", 3, x.step(0));
        CHECK.is("enters", 10, x.step(0));
        looks(x, "under way loaded", 2, 2, 1025, 1, 75, 0, 5);
        x.tick(1030);
        CHECK.is("ends", 4, x.step(0));
        looks(x, "ended", 2, -1, -1, -1, 75, 1, 5);
        CHECK.is("the other one", 0, x.assign());
        CHECK.is("loads", 3, x.step(0));
        int[] ends = {3, 0, 1};
        for (int end : ends) {
            CHECK.is("enters", 10, x.step(0));
            CHECK.is("goes to", end, x.look(0, 0));
            x.tick(x.look(0, 2));
        }
        CHECK.is("ends", 4, x.step(0));
        looks(x, "ended both", 1, -1, -1, -1, 66, 2, 5);
    }

    private static void lookOutside() {
        CarrierPaths x = new CarrierPaths(2);
        CHECK.outside("no carriers", () -> x.look(0, 0));
        x.carrier(1, 1);
        int[][] wrongs = {{-1, 0}, {1, 0}, {5, 0}, {6, 0}, {Integer.MIN_VALUE, 0},
            {Integer.MAX_VALUE, 0}, {0, -1}, {0, 7}, {0, Integer.MIN_VALUE}, {0, Integer.MAX_VALUE}};
        for (int[] w : wrongs) {
            CHECK.outside("look " + w[0] + " " + w[1], () -> x.look(w[0], w[1]));
        }
    }
}
