/** Promises 1 (a new object), 3 (places), 4 (charger) and 5 (ring). */
public final class PointsTest {
    private static final Check CHECK = new Check("PointsTest");

    public static void main(String[] args) {
        newObject();
        heldPoints();
        places();
        placesOfThoseOnTheWay();
        charger();
        ring();
        ringFree();
        ringLimits();
        CHECK.end();
    }

    private static void newObject() {
        CarrierPaths x = new CarrierPaths(5);
        CHECK.is("points", 5, x.count(0));
        for (int what = 1; what <= 7; what++) {
            CHECK.is("nothing else at first, what " + what, 0, x.count(what));
        }
        for (int p = 0; p < 5; p++) {
            CHECK.is("places at first", 2, x.count(20 + p));
            CHECK.is("nobody at first", 0, x.count(30 + p));
            CHECK.is("no charger at first", 0, x.count(40 + p));
        }
    }

    private static void heldPoints() {
        int[][] dues = {{Integer.MIN_VALUE, 2}, {-1, 2}, {0, 2}, {1, 2}, {2, 2}, {3, 3}, {9, 9},
            {10, 10}, {11, 10}, {Integer.MAX_VALUE, 10}};
        for (int[] due : dues) {
            CarrierPaths x = new CarrierPaths(due[0]);
            CHECK.is("points held, of " + due[0], due[1], x.count(0));
            CHECK.is("the last point is there, of " + due[0], 2, x.count(20 + due[1] - 1));
            CHECK.no("there is no point more, of " + due[0], x.places(due[1], 2));
        }
    }

    private static void places() {
        CarrierPaths x = new CarrierPaths(3);
        CHECK.yes("4 places", x.places(2, 4));
        CHECK.is("they are 4", 4, x.count(22));
        CHECK.is("another point's stay", 2, x.count(21));
        CHECK.yes("the same again", x.places(2, 4));
        CHECK.no("5 places", x.places(2, 5));
        CHECK.no("0 places", x.places(2, 0));
        CHECK.no("-1 places", x.places(2, -1));
        CHECK.no("point 3", x.places(3, 1));
        CHECK.no("point -1", x.places(-1, 1));
        CHECK.no("point MIN", x.places(Integer.MIN_VALUE, 1));
        CHECK.no("point MAX", x.places(Integer.MAX_VALUE, 1));
        CHECK.is("what is refused changes nothing", 4, x.count(22));
        CHECK.yes("1 place", x.places(2, 1));
        CHECK.is("it is 1", 1, x.count(22));
    }

    private static void placesOfThoseOnTheWay() {
        CarrierPaths x = new CarrierPaths(2);
        x.piece(0, 1, 3);
        x.charger(1, true);
        x.carrier(1, 0);
        x.carrier(0, 100);
        CHECK.yes("one stands there", x.places(1, 1));
        CHECK.yes("two places again", x.places(1, 2));
        x.close(0, true);
        x.job(0, 1);
        CHECK.is("given without travel", 0, x.assign());
        x.close(0, false);
        CHECK.is("loads", 3, x.step(1));
        CHECK.is("enters", 10, x.step(1));
        CHECK.no("one stands there and one is ON a piece to it", x.places(1, 1));
        CHECK.is("still 2", 2, x.count(21));
        CHECK.yes("as many as there are", x.places(1, 2));
        CHECK.yes("where it went from there is none", x.places(0, 1));
    }

    private static void charger() {
        CarrierPaths x = new CarrierPaths(2);
        CHECK.no("there is none as it is", x.charger(1, false));
        CHECK.yes("there is one", x.charger(1, true));
        CHECK.is("counted", 1, x.count(41));
        CHECK.is("not at another point", 0, x.count(40));
        CHECK.no("it is so", x.charger(1, true));
        CHECK.is("still there", 1, x.count(41));
        CHECK.yes("no more", x.charger(1, false));
        CHECK.is("not counted", 0, x.count(41));
        for (int point : new int[] {-1, 2, 10, 31, Integer.MIN_VALUE, Integer.MAX_VALUE}) {
            CHECK.no("charger at point " + point, x.charger(point, true));
            CHECK.no("no charger at point " + point, x.charger(point, false));
        }
    }

    private static void ring() {
        CarrierPaths x = new CarrierPaths(4);
        CHECK.illegal("no point", () -> x.ring(0));
        CHECK.illegal("bit 4", () -> x.ring(16));
        CHECK.illegal("bit 4 beside others", () -> x.ring(17));
        CHECK.illegal("the sign", () -> x.ring(Integer.MIN_VALUE));
        CHECK.illegal("all bits", () -> x.ring(-1));
        CHECK.is("no ring yet", 0, x.count(7));
        CHECK.is("one ring", 1, x.ring(15));
        CHECK.is("the same set once more", 2, x.ring(15));
        CHECK.is("one point", 3, x.ring(8));
        CHECK.is("counted", 3, x.count(7));
    }

    private static void ringFree() {
        CarrierPaths x = new CarrierPaths(4);
        x.ring(0b0110);
        x.ring(0b1000);
        x.places(1, 4);
        CHECK.is("4 and 2", 6, x.count(10));
        CHECK.is("2", 2, x.count(11));
        x.carrier(1, 100);
        x.carrier(3, 100);
        x.carrier(3, 100);
        x.carrier(0, 100);
        CHECK.is("one stands there", 5, x.count(10));
        CHECK.is("full", 0, x.count(11));
        x.piece(0, 2, 5);
        x.charger(2, true);
        x.job(0, 2);
        x.assign();
        CHECK.is("loads", 3, x.step(3));
        CHECK.is("enters", 10, x.step(3));
        CHECK.is("one is ON a piece to it", 4, x.count(10));
    }

    private static void ringLimits() {
        CarrierPaths x = new CarrierPaths(2);
        for (int n = 1; n <= 4; n++) {
            CHECK.is("ring", n, x.ring(1));
        }
        CHECK.tooMany("a fifth ring", () -> x.ring(1));
        CHECK.illegal("wrong and too many: wrong is told first", () -> x.ring(4));
        CHECK.illegal("none and too many: none is told first", () -> x.ring(0));
        CHECK.is("still 4", 4, x.count(7));
        CHECK.is("the last one", 2, x.count(13));
        CHECK.is("none behind it", -1, x.count(14));
    }
}
