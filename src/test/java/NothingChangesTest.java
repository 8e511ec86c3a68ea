import java.util.function.Supplier;

/**
 * "What throws or is refused changes nothing": of two yards that are alike one gets such a call
 * more; from there on both must tell the same and do the same.
 */
public final class NothingChangesTest {
    private static final Check CHECK = new Check("NothingChangesTest");
    private static final String ILLEGAL = "IllegalArgumentException";
    private static final String TOO_MANY = "IllegalStateException";
    private static final String OUTSIDE = "IndexOutOfBoundsException";
    private static final String NO = "0";
    private static final String NONE = "-1";

    private interface Call {
        long on(CarrierPaths x);
    }

    public static void main(String[] args) {
        buildingThatThrows();
        buildingThatIsRefused();
        buildingWhereAllIsMade();
        workThatThrows();
        workThatIsRefused();
        tellingThatThrows();
        CHECK.end();
    }

    /**
     * NOW is 15. Carrier 0 stands at 1 and ended job 0, carrier 1 is ON piece 3 with job 1 LOADED,
     * carrier 2 stands at 2 with job 2 GIVEN, job 3 waits. Piece 4 is closed, point 2 has one
     * place, point 3 no charger.
     */
    private static CarrierPaths busy() {
        CarrierPaths x = Edges.circle(4, 10);
        x.piece(0, 2, 10);
        Edges.send(x, CHECK, 0, 1, 100);
        x.close(4, true);
        x.tick(10);
        CHECK.is("ends", 4, x.step(0));
        Edges.send(x, CHECK, 3, 0, 200);
        x.carrier(2, 300);
        x.job(3, 0);
        CHECK.is("given to the nearest", 10, x.assign());
        CHECK.is("carrier 2 has it", 2, x.look(2, 3));
        x.job(1, 2);
        x.charger(3, false);
        x.places(2, 1);
        x.ring(0b0110);
        x.tick(15);
        return x;
    }

    /** As many of everything as there can be. */
    private static CarrierPaths full() {
        CarrierPaths x = new CarrierPaths(3);
        for (int n = 0; n < 30; n++) {
            x.piece(n % 3, (n + 1) % 3, 30 - n);
        }
        for (int n = 0; n < 4; n++) {
            x.ring(1 + n);
        }
        x.places(2, 3);
        x.charger(2, true);
        for (int n = 0; n < 6; n++) {
            CHECK.is("carrier", n, x.carrier(n / 2, 500));
        }
        for (int n = 0; n < 12; n++) {
            x.job(n % 3, (n + 2) % 3);
        }
        return x;
    }

    private static void changesNothing(String what, Supplier<CarrierPaths> yard, String due, Call call) {
        CarrierPaths x = yard.get();
        CHECK.same(what, due, answer(x, call));
        CHECK.same("after " + what, all(yard.get()), all(x));
    }

    private static String answer(CarrierPaths x, Call call) {
        try {
            return Long.toString(call.on(x));
        } catch (RuntimeException e) {
            return e.getClass().getSimpleName();
        }
    }

    private static String all(CarrierPaths x) {
        StringBuilder seen = new StringBuilder(Seen.in(x));
        int carriers = x.count(2);
        for (int round = 0; round < 3; round++) {
            seen.append("; round ").append(x.assign());
            for (int c = 0; c < carriers; c++) {
                seen.append(' ').append(x.step(c));
            }
            seen.append(' ').append(x.tick(x.count(4) + 10));
        }
        return seen.append(Seen.butWays(x)).toString();
    }

    private static long bit(boolean is) {
        return is ? 1 : 0;
    }

    private static void inBusy(String what, String due, Call call) {
        changesNothing(what, NothingChangesTest::busy, due, call);
    }

    private static void inFull(String what, String due, Call call) {
        changesNothing(what, NothingChangesTest::full, due, call);
    }

    private static void buildingThatThrows() {
        CHECK.sentence("What throws changes nothing: 2, 5, 6, 7");
        inBusy("a piece from -1", ILLEGAL, x -> x.piece(-1, 0, 1));
        inBusy("a piece to 4", ILLEGAL, x -> x.piece(0, 4, 1));
        inBusy("a piece to itself", ILLEGAL, x -> x.piece(2, 2, 1));
        inBusy("a piece in 0", ILLEGAL, x -> x.piece(0, 3, 0));
        inBusy("a piece in 101", ILLEGAL, x -> x.piece(0, 3, 101));
        inBusy("a ring of none", ILLEGAL, x -> x.ring(0));
        inBusy("a ring with bit 4", ILLEGAL, x -> x.ring(0b11000));
        inBusy("a ring of all bits", ILLEGAL, x -> x.ring(-1));
        inBusy("a carrier at -1", ILLEGAL, x -> x.carrier(-1, 1));
        inBusy("a carrier at 4", ILLEGAL, x -> x.carrier(4, 1));
        inBusy("a carrier with -1", ILLEGAL, x -> x.carrier(3, -1));
        inBusy("a carrier with 1001", ILLEGAL, x -> x.carrier(3, 1001));
        inBusy("a job from -1", ILLEGAL, x -> x.job(-1, 0));
        inBusy("a job to 4", ILLEGAL, x -> x.job(0, 4));
        inBusy("a job to itself", ILLEGAL, x -> x.job(1, 1));
    }

    private static void buildingThatIsRefused() {
        CHECK.sentence("What is refused changes nothing: 3, 4, 6, 11");
        inBusy("places of -1", NO, x -> bit(x.places(-1, 3)));
        inBusy("places of 4", NO, x -> bit(x.places(4, 3)));
        inBusy("0 places", NO, x -> bit(x.places(3, 0)));
        inBusy("5 places", NO, x -> bit(x.places(3, 5)));
        inFull("fewer places than stand there", NO, x -> bit(x.places(0, 1)));
        inBusy("a charger at -1", NO, x -> bit(x.charger(-1, true)));
        inBusy("a charger at 4", NO, x -> bit(x.charger(4, true)));
        inBusy("a charger where one is", NO, x -> bit(x.charger(0, true)));
        inBusy("none where none is", NO, x -> bit(x.charger(3, false)));
        inBusy("a carrier where it is FULL", NONE, x -> x.carrier(2, 77));
        inBusy("piece -1 closed", NO, x -> bit(x.close(-1, true)));
        inBusy("piece 5 closed", NO, x -> bit(x.close(5, true)));
        inBusy("a closed piece closed", NO, x -> bit(x.close(4, true)));
        inBusy("an open piece opened", NO, x -> bit(x.close(0, false)));
    }

    private static void buildingWhereAllIsMade() {
        CHECK.sentence("What throws changes nothing: 2, 5, 6, 7 where there are as many as can be");
        inFull("piece 30", TOO_MANY, x -> x.piece(0, 2, 1));
        inFull("piece 30 to itself", ILLEGAL, x -> x.piece(2, 2, 1));
        inFull("ring 4", TOO_MANY, x -> x.ring(7));
        inFull("ring 4 of none", ILLEGAL, x -> x.ring(0));
        inFull("carrier 6", TOO_MANY, x -> x.carrier(2, 7));
        inFull("carrier 6 where it is FULL", TOO_MANY, x -> x.carrier(0, 7));
        inFull("carrier 6 with 1001", ILLEGAL, x -> x.carrier(2, 1001));
        inFull("job 12", TOO_MANY, x -> x.job(0, 1));
        inFull("job 12 to itself", ILLEGAL, x -> x.job(1, 1));
    }

    private static void workThatThrows() {
        CHECK.sentence("What throws changes nothing: 9, 10, 12");
        inBusy("a step of -1", OUTSIDE, x -> x.step(-1));
        inBusy("a step of 3", OUTSIDE, x -> x.step(3));
        inFull("a step of 6", OUTSIDE, x -> x.step(6));
        inBusy("a time before NOW", ILLEGAL, x -> x.tick(14));
        inBusy("a time below 0", ILLEGAL, x -> x.tick(-1));
        inBusy("the time 1000001", ILLEGAL, x -> x.tick(1000001));
        inBusy("the charge of -1", OUTSIDE, x -> bit(x.charge(-1)));
        inBusy("the charge of 3", OUTSIDE, x -> bit(x.charge(3)));
        inFull("the charge of 6", OUTSIDE, x -> bit(x.charge(6)));
    }

    private static void workThatIsRefused() {
        CHECK.sentence("What is refused changes nothing: 8, 9, 10, 12");
        inBusy("a step ON a piece", "1", x -> x.step(1));
        inBusy("a step without a job", "2", x -> x.step(0));
        inBusy("the same time again", NO, x -> x.tick(15));
        inBusy("the charge of one ON a piece", NO, x -> bit(x.charge(1)));
        inFull("the charge of one at no charger", NO, x -> bit(x.charge(0)));
        Supplier<CarrierPaths> given = () -> {
            CarrierPaths x = full();
            x.assign();
            return x;
        };
        changesNothing("to give out none", given, NONE, CarrierPaths::assign);
    }

    private static void tellingThatThrows() {
        CHECK.sentence("What throws or tells changes nothing: 13, 14, 15, 16");
        inBusy("a way from -1", ILLEGAL, x -> x.way(-1, 0, 0));
        inBusy("a way to 4", ILLEGAL, x -> x.way(0, 4, 0));
        inBusy("a way's what 3", ILLEGAL, x -> x.way(0, 1, 3));
        inBusy("a way's pieces", "3", x -> x.way(1, 0, 2));
        inBusy("carrier 3", OUTSIDE, x -> x.look(3, 0));
        inBusy("a carrier's what 7", OUTSIDE, x -> x.look(0, 7));
        inBusy("job 4", OUTSIDE, x -> x.of(4, 0));
        inBusy("a job's what 4", OUTSIDE, x -> x.of(0, 4));
        inBusy("count -1", NONE, x -> x.count(-1));
        inBusy("count 11", NONE, x -> x.count(11));
        inBusy("count 50", NONE, x -> x.count(50));
    }
}
