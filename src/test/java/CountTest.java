/** Promise 16 (count). */
public final class CountTest {
    private static final Check CHECK = new Check("CountTest");

    public static void main(String[] args) {
        counts();
        nothingElse();
        ringsAndPointsThatAreNot();
        CHECK.end();
    }

    private static void counts() {
        CarrierPaths x = new CarrierPaths(6);
        x.piece(0, 1, 5);
        x.piece(2, 3, 6);
        x.piece(3, 4, 6);
        x.charger(1, true);
        x.charger(4, true);
        x.ring(0b000011);
        x.ring(0b111100);
        x.carrier(0, 100);
        x.carrier(2, 100);
        x.carrier(5, 100);
        x.job(0, 1);
        x.job(2, 4);
        x.job(5, 4);
        x.job(5, 4);
        CHECK.is("given", 0, x.assign());
        x.tick(3);
        int[] dues = {6, 3, 3, 4, 3, 0, 0, 2};
        isCounted(x, dues);
        for (int c = 0; c < 2; c++) {
            CHECK.is("loads", 3, x.step(c));
            CHECK.is("enters", 10, x.step(c));
        }
        dues[6] = 2;
        isCounted(x, dues);
        CHECK.is("one comes", 1, x.tick(8));
        CHECK.is("ends", 4, x.step(0));
        dues[4] = 8;
        dues[5] = 1;
        dues[6] = 1;
        isCounted(x, dues);
        CHECK.is("the first ring", 3, x.count(10));
        CHECK.is("the second ring", 6, x.count(11));
        int[] heads = {0, 1, 0, 1, 0, 1};
        int[] chargers = {0, 1, 0, 0, 1, 0};
        x.places(4, 3);
        for (int p = 0; p < 6; p++) {
            CHECK.is("places of " + p, p == 4 ? 3 : 2, x.count(20 + p));
            CHECK.is("those at " + p, heads[p], x.count(30 + p));
            CHECK.is("charger of " + p, chargers[p], x.count(40 + p));
        }
    }

    private static void isCounted(CarrierPaths x, int[] dues) {
        for (int what = 0; what < dues.length; what++) {
            CHECK.is("count " + what, dues[what], x.count(what));
        }
    }

    private static void nothingElse() {
        CarrierPaths x = new CarrierPaths(10);
        for (int r = 0; r < 4; r++) {
            x.ring(1 << r);
        }
        int[] wrongs = {-1, -9, -10, -11, -20, -30, 8, 9, 14, 15, 19, 50, 51, 100, 1000,
            Integer.MIN_VALUE, Integer.MIN_VALUE + 8, Integer.MAX_VALUE, 1 << 16, (1 << 30) + 20};
        for (int what : wrongs) {
            CHECK.is("count " + what, -1, x.count(what));
        }
    }

    private static void ringsAndPointsThatAreNot() {
        CarrierPaths x = new CarrierPaths(2);
        for (int r = 0; r < 10; r++) {
            CHECK.is("ring " + r, -1, x.count(10 + r));
        }
        for (int p = 2; p < 10; p++) {
            CHECK.is("places of " + p, -1, x.count(20 + p));
            CHECK.is("those at " + p, -1, x.count(30 + p));
            CHECK.is("charger of " + p, -1, x.count(40 + p));
        }
        x.ring(3);
        CHECK.is("ring 0", 4, x.count(10));
        CHECK.is("ring 1", -1, x.count(11));
    }
}
