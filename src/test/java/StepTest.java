/** Promise 9 (step): each of its ten answers, what each changes, and which one comes first. */
public final class StepTest {
    private static final Check CHECK = new Check("StepTest");

    public static void main(String[] args) {
        noSuchCarrier();
        aWholeJob();
        givenWhereItEnds();
        noWay();
        pieceTaken();
        endFull();
        ringLeavesAPlace();
        ringMovesInside();
        ringOfSeveral();
        chargeReachesACharger();
        chargerMustBeReached();
        chargeOfTheWayBack();
        firstReasonIsTold();
        CHECK.end();
    }

    /** Points 0 to 3 in a circle, piece p from point p, each of time 10; a charger at every point. */
    private static CarrierPaths circle() {
        CarrierPaths x = new CarrierPaths(4);
        for (int p = 0; p < 4; p++) {
            x.piece(p, (p + 1) % 4, 10);
            x.charger(p, true);
        }
        return x;
    }

    private static void noSuchCarrier() {
        CarrierPaths x = circle();
        CHECK.outside("none at all", () -> x.step(0));
        x.carrier(0, 5);
        for (int c : new int[] {-1, 1, 5, 6, Integer.MIN_VALUE, Integer.MAX_VALUE}) {
            CHECK.outside("carrier " + c, () -> x.step(c));
        }
    }

    private static void aWholeJob() {
        CarrierPaths x = circle();
        x.carrier(0, 100);
        CHECK.is("has no job", 2, x.step(0));
        x.job(1, 3);
        CHECK.is("a job that waits is none", 2, x.step(0));
        CHECK.is("given", 10, x.assign());
        int[] dues = {10, 1, 3, 10, 1, 10, 1, 4, 2, 2};
        for (int due : dues) {
            CHECK.is("a whole job", due, x.step(0));
            if (due == 1) {
                x.tick(x.look(0, 2));
            }
        }
        CHECK.is("NOW", 30, x.count(4));
        CHECK.is("charge", 70, x.look(0, 4));
        CHECK.is("ended by it", 1, x.look(0, 5));
        CHECK.is("empty", 10, x.look(0, 6));
        CHECK.is("ended in all", 1, x.count(5));
        CHECK.is("the job", 3, x.of(0, 2));
    }

    /** A GIVEN job does not end where it leads to. */
    private static void givenWhereItEnds() {
        CarrierPaths x = circle();
        x.carrier(1, 100);
        x.job(0, 1);
        CHECK.is("three pieces", 30, x.assign());
        CHECK.is("goes to its beginning", 10, x.step(0));
        CHECK.is("still GIVEN", 1, x.of(0, 2));
    }

    private static void noWay() {
        CarrierPaths x = circle();
        x.carrier(0, 100);
        x.job(2, 1);
        CHECK.is("given", 20, x.assign());
        x.close(1, true);
        CHECK.is("no way", 5, x.step(0));
        CHECK.is("nothing done", 0, x.look(0, 0));
        x.close(1, false);
        CHECK.is("a way", 10, x.step(0));
    }

    private static CarrierPaths twoAtPoint0(int places) {
        CarrierPaths x = circle();
        x.places(1, places);
        x.carrier(0, 100);
        x.carrier(0, 100);
        x.job(0, 2);
        x.job(0, 2);
        x.assign();
        CHECK.is("loads", 3, x.step(0));
        CHECK.is("loads", 3, x.step(1));
        CHECK.is("enters", 10, x.step(0));
        return x;
    }

    private static void pieceTaken() {
        CarrierPaths x = twoAtPoint0(2);
        CHECK.is("another one is ON it", 6, x.step(1));
        CHECK.is("nothing done", 100, x.look(1, 4));
        CHECK.is("one piece", 1, x.count(6));
        x.tick(9);
        CHECK.is("still", 6, x.step(1));
        x.tick(10);
        CHECK.is("it is free", 10, x.step(1));
        x.step(0);
        CHECK.is("two pieces", 2, x.count(6));
    }

    private static void endFull() {
        CarrierPaths x = twoAtPoint0(1);
        x.piece(0, 1, 1);
        CHECK.is("FULL by one that is under way on another piece", 7, x.step(1));
        x.tick(10);
        CHECK.is("FULL by one that stands there", 7, x.step(1));
        CHECK.is("nothing done", 100, x.look(1, 4));
        x.places(1, 2);
        CHECK.is("one place more", 10, x.step(1));
        CHECK.is("the shorter piece", 4, x.look(1, 1));
        CHECK.is("when it comes", 11, x.look(1, 2));
        CHECK.is("the piece's time from its charge", 99, x.look(1, 4));
    }

    private static void ringLeavesAPlace() {
        CarrierPaths x = circle();
        x.ring(0b0110);
        x.places(1, 1);
        x.places(2, 1);
        x.carrier(0, 100);
        x.job(0, 3);
        x.assign();
        x.step(0);
        x.carrier(2, 100);
        CHECK.is("one place free", 1, x.count(10));
        CHECK.is("it is left alone", 8, x.step(0));
        CHECK.is("nothing done", 100, x.look(0, 4));
        x.places(2, 2);
        CHECK.is("two free", 2, x.count(10));
        CHECK.is("enters", 10, x.step(0));
        CHECK.is("one is left", 1, x.count(10));
    }

    /** Inside a ring the last place may be used, and it may be left. */
    private static void ringMovesInside() {
        CarrierPaths x = circle();
        x.ring(0b0110);
        x.places(1, 1);
        x.places(2, 1);
        x.carrier(1, 100);
        x.job(1, 3);
        x.assign();
        x.step(0);
        CHECK.is("one free", 1, x.count(10));
        CHECK.is("goes on inside", 10, x.step(0));
        CHECK.is("one free", 1, x.count(10));
        x.tick(10);
        CHECK.is("leaves", 10, x.step(0));
        CHECK.is("two free", 2, x.count(10));
    }

    /** It is inside the first ring and enters the second and the third; only the third is short. */
    private static void ringOfSeveral() {
        CarrierPaths x = circle();
        x.ring(0b0011);
        x.ring(0b1110);
        x.ring(0b0010);
        x.places(1, 1);
        x.places(0, 1);
        x.carrier(0, 100);
        x.job(0, 2);
        x.assign();
        x.step(0);
        CHECK.is("one free in the first", 1, x.count(10));
        CHECK.is("five free in the second", 5, x.count(11));
        CHECK.is("one free in the third", 1, x.count(12));
        CHECK.is("the third", 8, x.step(0));
        x.places(1, 2);
        CHECK.is("none is short", 10, x.step(0));
    }

    private static CarrierPaths oneWithCharge(int charge) {
        CarrierPaths x = circle();
        for (int p = 0; p < 4; p++) {
            x.charger(p, p == 3);
        }
        x.carrier(0, charge);
        x.job(0, 1);
        x.assign();
        CHECK.is("to load takes no charge", 3, x.step(0));
        return x;
    }

    private static void chargeReachesACharger() {
        CarrierPaths x = oneWithCharge(29);
        CHECK.is("10 and 20 to the charger", 9, x.step(0));
        CHECK.is("nothing done", 29, x.look(0, 4));
        CHECK.is("nothing done", 0, x.look(0, 0));
        CHECK.is("just enough", 10, oneWithCharge(30).step(0));
        x.charger(2, true);
        CHECK.is("a nearer one", 10, x.step(0));
        CarrierPaths y = oneWithCharge(10);
        CHECK.is("not enough", 9, y.step(0));
        y.charger(1, true);
        CHECK.is("a charger at the very end", 10, y.step(0));
        CHECK.is("all is used", 0, y.look(0, 4));
        CarrierPaths z = oneWithCharge(9);
        z.charger(1, true);
        CHECK.is("less than the piece", 9, z.step(0));
    }

    private static void chargerMustBeReached() {
        CarrierPaths x = oneWithCharge(1000);
        x.close(2, true);
        CHECK.is("no open way to a charger", 9, x.step(0));
        x.charger(0, true);
        CHECK.is("none to the one it stands at either", 9, x.step(0));
        x.close(2, false);
        x.charger(0, false);
        x.charger(3, false);
        CHECK.is("no charger", 9, x.step(0));
        x.charger(0, true);
        CHECK.is("one all round the circle", 10, x.step(0));
        CHECK.is("charge", 990, x.look(0, 4));
    }

    /** The nearest charger by time counts, not the one by fewest pieces or by least number. */
    private static void chargeOfTheWayBack() {
        CarrierPaths x = new CarrierPaths(5);
        x.piece(0, 1, 10);
        x.piece(1, 2, 40);
        x.piece(1, 3, 5);
        x.piece(3, 4, 6);
        x.charger(2, true);
        x.charger(4, true);
        x.carrier(0, 21);
        x.job(0, 1);
        x.assign();
        x.step(0);
        x.close(3, true);
        CHECK.is("50 to point 2", 9, x.step(0));
        x.close(3, false);
        CHECK.is("21 to point 4", 10, x.step(0));
    }

    private static void firstReasonIsTold() {
        CarrierPaths x = new CarrierPaths(2);
        x.piece(0, 1, 10);
        x.charger(1, true);
        x.ring(0b10);
        x.places(1, 1);
        x.carrier(0, 10);
        x.carrier(0, 0);
        x.job(0, 1);
        x.job(0, 1);
        x.assign();
        x.step(0);
        x.step(1);
        CHECK.is("8 before 9", 8, x.step(1));
        x.places(1, 2);
        CHECK.is("enters", 10, x.step(0));
        CHECK.is("6 before 7, 8 and 9", 6, x.step(1));
        x.places(1, 1);
        CHECK.is("6 before 7", 6, x.step(1));
        x.close(0, true);
        CHECK.is("5 before 6", 5, x.step(1));
        x.close(0, false);
        x.tick(10);
        CHECK.is("7 before 8 and 9", 7, x.step(1));
        x.places(1, 2);
        CHECK.is("8 with one place free", 8, x.step(1));
        x.places(1, 3);
        CHECK.is("9 at last", 9, x.step(1));
    }
}
