/** Promises 10 to 12: a test of its own for each sentence that names a boundary case. */
public final class EdgesWorkTest {
    private static final Check CHECK = new Check("EdgesWorkTest");

    public static void main(String[] args) {
        tickCountsWhoCame();
        tickAtTheVeryTime();
        tickBeforeNow();
        tickThatCanNotBe();
        tickToTheLastTime();
        closeWithoutSuchPiece();
        closeAsItIs();
        closeUnderACarrier();
        closeAndEnter();
        chargeWithoutSuchCarrier();
        chargeWhereItStands();
        chargeUnderWay();
        chargeToAThousand();
        CHECK.end();
    }

    /** Carriers 0 to 5 are ON pieces that take 10, 20, .. 60 from time 0 on. */
    private static CarrierPaths sixUnderWay() {
        CarrierPaths x = new CarrierPaths(10);
        x.charger(9, true);
        x.charger(8, true);
        x.places(9, 4);
        for (int c = 0; c < 6; c++) {
            x.piece(c, c < 4 ? 9 : 8, 10 + 10 * c);
            CHECK.is("carrier", c, Edges.send(x, CHECK, c, c < 4 ? 9 : 8, 100));
        }
        return x;
    }

    private static void tickCountsWhoCame() {
        CHECK.sentence("10: how many carriers came to the end of their piece");
        CHECK.is("there are none", 0, new CarrierPaths(2).tick(5));
        CHECK.is("all at once", 6, sixUnderWay().tick(60));
        CHECK.is("all but the last", 5, sixUnderWay().tick(59));
        CHECK.is("long after", 6, sixUnderWay().tick(1000000));
        CarrierPaths x = sixUnderWay();
        CHECK.is("none yet", 0, x.tick(9));
        CHECK.is("the first one", 1, x.tick(10));
        CHECK.is("those after it", 2, x.tick(35));
        CHECK.is("pieces ON which one is", 3, x.count(6));
        CHECK.is("none since", 0, x.tick(39));
        CHECK.is("the rest", 3, x.tick(100));
        CHECK.is("those who stand do not come again", 0, x.tick(101));
    }

    private static void tickAtTheVeryTime() {
        CHECK.sentence("Terms: ON a piece until so much later as its time; then they stand at its end");
        for (int time : new int[] {1, 2, 99, 100}) {
            CarrierPaths x = Edges.circle(2, time);
            x.tick(1000);
            Edges.send(x, CHECK, 0, 1, 1000);
            CHECK.is("one before", 0, x.tick(999 + time));
            CHECK.is("ON it still", 0, x.look(0, 1));
            CHECK.is("then", 1, x.tick(1000 + time));
            CHECK.is("ON none", -1, x.look(0, 1));
            CHECK.is("comes to no end", -1, x.look(0, 2));
            CHECK.is("at the piece's end", 1, x.look(0, 0));
        }
    }

    private static void tickBeforeNow() {
        CHECK.sentence("10: IllegalArgumentException if it is ahead of NOW");
        CarrierPaths x = Edges.circle(2, 10);
        Edges.send(x, CHECK, 0, 1, 100);
        CHECK.is("0 again", 0, x.tick(0));
        CHECK.is("9", 0, x.tick(9));
        CHECK.illegal("8", () -> x.tick(8));
        CHECK.illegal("0", () -> x.tick(0));
        CHECK.is("NOW is 9 still", 9, x.count(4));
        CHECK.is("9 again", 0, x.tick(9));
        CHECK.is("10", 1, x.tick(10));
        CHECK.illegal("9", () -> x.tick(9));
        CHECK.is("NOW is 10 still", 10, x.count(4));
    }

    private static void tickThatCanNotBe() {
        CHECK.sentence("10: IllegalArgumentException if it can't be (0 .. 1000000)");
        CarrierPaths x = Edges.circle(2, 10);
        Edges.send(x, CHECK, 0, 1, 100);
        for (int time : Edges.outside(0, 1000000)) {
            CHECK.illegal("time " + time, () -> x.tick(time));
        }
        CHECK.is("NOW is 0 still", 0, x.count(4));
        CHECK.is("nobody came", 0, x.look(0, 1));
    }

    private static void tickToTheLastTime() {
        CHECK.sentence("Terms: NOW is a time, 0 .. 1000000");
        CarrierPaths x = Edges.circle(2, 100);
        x.tick(999900);
        Edges.send(x, CHECK, 0, 1, 1000);
        CHECK.is("it comes at the last time", 1000000, x.look(0, 2));
        CHECK.is("not yet", 0, x.tick(999999));
        CHECK.is("at the last time", 1, x.tick(1000000));
        CHECK.is("NOW", 1000000, x.count(4));
        CHECK.is("the last time again", 0, x.tick(1000000));
        CHECK.illegal("one behind it", () -> x.tick(1000001));
        CHECK.illegal("one before it", () -> x.tick(999999));
        CHECK.is("ends", 4, x.step(0));
        x.job(1, 0);
        x.assign();
        x.step(0);
        CHECK.is("enters at the last time", 10, x.step(0));
        CHECK.is("the sum is told", 1000100, x.look(0, 2));
        CHECK.is("it never comes", 0, x.tick(1000000));
        CHECK.is("ON it", 1, x.step(0));
    }

    private static void closeWithoutSuchPiece() {
        CHECK.sentence("11: false if there is no such piece");
        CarrierPaths none = new CarrierPaths(2);
        CHECK.no("there is none", none.close(0, true));
        CHECK.no("there is none to open", none.close(0, false));
        for (int pieces : new int[] {1, 7, 30}) {
            CarrierPaths x = new CarrierPaths(2);
            for (int n = 0; n < pieces; n++) {
                x.piece(n % 2, 1 - n % 2, 1 + n);
            }
            for (int piece : Edges.outside(0, pieces - 1)) {
                CHECK.no("piece " + piece + " of " + pieces, x.close(piece, true));
                CHECK.no("to open piece " + piece + " of " + pieces, x.close(piece, false));
            }
            CHECK.is("the way is as before", 0, x.way(0, 1, 1));
            CHECK.yes("the last one", x.close(pieces - 1, true));
            CHECK.yes("the last one again open", x.close(pieces - 1, false));
        }
    }

    private static void closeAsItIs() {
        CHECK.sentence("11: false if it is so");
        CarrierPaths x = new CarrierPaths(2);
        x.piece(0, 1, 5);
        x.piece(0, 1, 9);
        CHECK.no("it is open at first", x.close(0, false));
        CHECK.is("the way", 0, x.way(0, 1, 1));
        CHECK.yes("closed", x.close(0, true));
        CHECK.is("the way beside it", 1, x.way(0, 1, 1));
        CHECK.no("it is closed", x.close(0, true));
        CHECK.is("closed still", 1, x.way(0, 1, 1));
        CHECK.yes("the other one too", x.close(1, true));
        CHECK.is("no way", -1, x.way(0, 1, 0));
        CHECK.yes("open again", x.close(0, false));
        CHECK.no("it is open again", x.close(0, false));
        CHECK.is("the way", 5, x.way(0, 1, 0));
        CHECK.is("two pieces", 2, x.count(1));
    }

    private static void closeUnderACarrier() {
        CHECK.sentence("Terms: A carrier ON a piece that comes to be closed goes on");
        CarrierPaths x = Edges.circle(3, 10);
        Edges.send(x, CHECK, 0, 2, 100);
        CHECK.yes("closed", x.close(0, true));
        CHECK.is("ON it still", 0, x.look(0, 1));
        CHECK.is("it comes as before", 10, x.look(0, 2));
        CHECK.is("its charge is as before", 90, x.look(0, 4));
        CHECK.is("a piece ON which one is", 1, x.count(6));
        CHECK.is("not before its time", 0, x.tick(9));
        CHECK.is("it comes", 1, x.tick(10));
        CHECK.is("and goes on from there", 10, x.step(0));
        CHECK.yes("open again under another one", x.close(0, false));
        CHECK.is("ON the next piece", 1, x.look(0, 1));
    }

    private static void closeAndEnter() {
        CHECK.sentence("Terms: A WAY goes along open pieces");
        CarrierPaths x = new CarrierPaths(3);
        x.piece(0, 1, 5);
        x.piece(0, 2, 5);
        x.piece(2, 1, 5);
        x.charger(1, true);
        x.carrier(0, 100);
        x.job(0, 1);
        x.assign();
        x.step(0);
        x.close(0, true);
        CHECK.is("enters", 10, x.step(0));
        CHECK.is("the open piece", 1, x.look(0, 1));
        x.close(0, false);
        x.close(2, true);
        x.tick(5);
        CHECK.is("no open piece from there", 5, x.step(0));
    }

    private static void chargeWithoutSuchCarrier() {
        CHECK.sentence("12: IndexOutOfBoundsException if there is no such carrier");
        CarrierPaths x = new CarrierPaths(3);
        for (int p = 0; p < 3; p++) {
            x.charger(p, true);
        }
        CHECK.outside("there is none", () -> x.charge(0) ? 1 : 0);
        for (int carriers = 1; carriers <= 6; carriers++) {
            x.carrier(carriers % 3, 10);
            for (int c : Edges.outside(0, carriers - 1)) {
                CHECK.outside("carrier " + c + " of " + carriers, () -> x.charge(c) ? 1 : 0);
            }
            CHECK.yes("the last one", x.charge(carriers - 1));
        }
    }

    private static void chargeWhereItStands() {
        CHECK.sentence("12: A carrier that stands at a point with a CHARGER: true; else false");
        CarrierPaths x = new CarrierPaths(2);
        x.carrier(0, 10);
        x.carrier(1, 20);
        CHECK.no("no charger", x.charge(0));
        x.charger(1, true);
        CHECK.no("one at another point", x.charge(0));
        CHECK.is("not charged", 10, x.look(0, 4));
        CHECK.yes("where the other one stands", x.charge(1));
        CHECK.is("charged", 1000, x.look(1, 4));
        CHECK.is("that one alone", 10, x.look(0, 4));
        x.charger(1, false);
        CHECK.no("it is gone", x.charge(1));
        CHECK.is("charged still", 1000, x.look(1, 4));
    }

    private static void chargeUnderWay() {
        CHECK.sentence("12: stands at a point, else false");
        CarrierPaths x = Edges.circle(2, 10);
        Edges.send(x, CHECK, 0, 1, 100);
        CHECK.no("ON a piece between chargers", x.charge(0));
        x.tick(9);
        CHECK.no("nearly there", x.charge(0));
        CHECK.is("not charged", 90, x.look(0, 4));
        x.tick(10);
        CHECK.yes("there, with its LOADED job", x.charge(0));
        CHECK.is("charged", 1000, x.look(0, 4));
        CHECK.is("its job is as before", 2, x.of(0, 2));
    }

    private static void chargeToAThousand() {
        CHECK.sentence("12: is charged to 1000: true");
        for (int charge : new int[] {0, 1, 999, 1000}) {
            CarrierPaths x = new CarrierPaths(2);
            x.charger(1, true);
            x.carrier(1, charge);
            CHECK.yes("from " + charge, x.charge(0));
            CHECK.is("it is", 1000, x.look(0, 4));
            CHECK.yes("again", x.charge(0));
            CHECK.is("it is no more", 1000, x.look(0, 4));
        }
    }
}
