/** Promises 7 (job), 8 (assign) and 15 (of). */
public final class JobsTest {
    private static final Check CHECK = new Check("JobsTest");

    public static void main(String[] args) {
        job();
        jobLimits();
        of();
        ofOutside();
        assignNothing();
        assignMostBeforeNearest();
        assignLeastTravel();
        assignLeastCarrierToLeastJob();
        assignLeavesTheLaterJob();
        assignOnlyThoseWhoStandAndHaveNone();
        assignWithoutWay();
        assignManyToMany();
        CHECK.end();
    }

    private static void job() {
        CarrierPaths x = new CarrierPaths(3);
        int[][] wrongs = {{0, 0}, {2, 2}, {-1, 0}, {0, -1}, {3, 0}, {0, 3},
            {Integer.MIN_VALUE, 0}, {0, Integer.MAX_VALUE}, {3, 3}};
        for (int[] w : wrongs) {
            CHECK.illegal("job " + w[0] + " " + w[1], () -> x.job(w[0], w[1]));
        }
        CHECK.is("none yet", 0, x.count(3));
        CHECK.is("first", 0, x.job(2, 0));
        CHECK.is("the same once more", 1, x.job(2, 0));
        CHECK.is("counted", 2, x.count(3));
    }

    private static void jobLimits() {
        CarrierPaths x = new CarrierPaths(3);
        for (int n = 0; n < 12; n++) {
            CHECK.is("job", n, x.job(n % 3, (n + 1) % 3));
        }
        CHECK.tooMany("a thirteenth one", () -> x.job(0, 1));
        CHECK.illegal("wrong points are told first", () -> x.job(1, 1));
        CHECK.is("still 12", 12, x.count(3));
        CHECK.is("the last one", 2, x.of(11, 0));
    }

    private static void isJob(CarrierPaths x, int job, int... dues) {
        for (int what = 0; what < dues.length; what++) {
            CHECK.is("job " + job + ", what " + what, dues[what], x.of(job, what));
        }
    }

    private static void of() {
        CarrierPaths x = new CarrierPaths(3);
        x.piece(2, 1, 5);
        x.charger(1, true);
        x.carrier(0, 50);
        x.carrier(2, 50);
        x.job(2, 1);
        isJob(x, 0, 2, 1, 0, -1);
        CHECK.is("given", 0, x.assign());
        isJob(x, 0, 2, 1, 1, 1);
        CHECK.is("loads", 3, x.step(1));
        isJob(x, 0, 2, 1, 2, 1);
        CHECK.is("enters", 10, x.step(1));
        isJob(x, 0, 2, 1, 2, 1);
        x.tick(5);
        CHECK.is("ends", 4, x.step(1));
        isJob(x, 0, 2, 1, 3, 1);
    }

    private static void ofOutside() {
        CarrierPaths x = new CarrierPaths(2);
        CHECK.outside("no jobs", () -> x.of(0, 0));
        x.job(0, 1);
        int[][] wrongs = {{-1, 0}, {1, 0}, {11, 0}, {12, 0}, {Integer.MIN_VALUE, 0},
            {Integer.MAX_VALUE, 0}, {0, -1}, {0, 4}, {0, Integer.MIN_VALUE}, {0, Integer.MAX_VALUE}};
        for (int[] w : wrongs) {
            CHECK.outside("of " + w[0] + " " + w[1], () -> x.of(w[0], w[1]));
        }
    }

    private static void has(CarrierPaths x, int job, int carrier) {
        CHECK.is("who has job " + job, carrier, x.of(job, 3));
        CHECK.is("whether it waits, job " + job, carrier == -1 ? 0 : 1, x.of(job, 2));
        if (carrier != -1) {
            CHECK.is("what carrier " + carrier + " has", job, x.look(carrier, 3));
        }
    }

    private static void assignNothing() {
        CarrierPaths x = new CarrierPaths(2);
        CHECK.is("no carriers, no jobs", -1, x.assign());
        x.job(0, 1);
        CHECK.is("no carriers", -1, x.assign());
        x.carrier(0, 0);
        CHECK.is("one, without travel", 0, x.assign());
        CHECK.is("no jobs that wait", -1, x.assign());
        has(x, 0, 0);
    }

    /** The nearest pair would leave the other carrier without a job that it may have. */
    private static void assignMostBeforeNearest() {
        CarrierPaths x = new CarrierPaths(4);
        x.piece(0, 1, 1);
        x.piece(0, 2, 100);
        x.piece(3, 1, 100);
        x.carrier(0, 9);
        x.carrier(3, 9);
        x.job(1, 0);
        x.job(2, 0);
        CHECK.is("two jobs", 200, x.assign());
        has(x, 0, 1);
        has(x, 1, 0);
    }

    /** To take the nearest carrier for each job in turn would be 1 + 100. */
    private static void assignLeastTravel() {
        CarrierPaths x = new CarrierPaths(4);
        x.piece(0, 2, 1);
        x.piece(1, 2, 2);
        x.piece(0, 3, 3);
        x.piece(1, 3, 100);
        x.carrier(0, 9);
        x.carrier(1, 9);
        x.job(2, 0);
        x.job(3, 0);
        CHECK.is("2 and 3", 5, x.assign());
        has(x, 0, 1);
        has(x, 1, 0);
    }

    private static void assignLeastCarrierToLeastJob() {
        CarrierPaths x = new CarrierPaths(3);
        x.piece(0, 1, 4);
        x.piece(0, 2, 4);
        x.places(0, 4);
        for (int c = 0; c < 4; c++) {
            x.carrier(0, 9);
        }
        x.job(2, 0);
        x.job(1, 0);
        CHECK.is("all are alike", 8, x.assign());
        has(x, 0, 0);
        has(x, 1, 1);
        CHECK.is("none for carrier 2", -1, x.look(2, 3));
        x.job(0, 1);
        x.job(0, 2);
        x.job(0, 1);
        CHECK.is("those that are left", 0, x.assign());
        has(x, 2, 2);
        has(x, 3, 3);
        has(x, 4, -1);
    }

    private static void assignLeavesTheLaterJob() {
        CarrierPaths x = new CarrierPaths(3);
        x.piece(0, 1, 4);
        x.piece(0, 2, 4);
        x.piece(1, 2, 4);
        x.carrier(0, 9);
        x.job(1, 0);
        x.job(2, 0);
        CHECK.is("as near: the least job has it", 4, x.assign());
        has(x, 0, 0);
        has(x, 1, -1);
        CarrierPaths y = new CarrierPaths(3);
        y.piece(0, 1, 4);
        y.piece(0, 2, 3);
        y.carrier(0, 9);
        y.job(1, 0);
        y.job(2, 0);
        CHECK.is("nearer: the later job has it", 3, y.assign());
        has(y, 0, -1);
        has(y, 1, 0);
    }

    private static void assignOnlyThoseWhoStandAndHaveNone() {
        CarrierPaths x = new CarrierPaths(2);
        x.piece(0, 1, 5);
        x.piece(1, 0, 5);
        x.charger(0, true);
        x.charger(1, true);
        x.carrier(0, 100);
        x.job(1, 0);
        CHECK.is("first", 5, x.assign());
        x.job(0, 1);
        CHECK.is("it has one that is GIVEN", -1, x.assign());
        CHECK.is("enters", 10, x.step(0));
        CHECK.is("it is ON a piece", -1, x.assign());
        x.tick(5);
        CHECK.is("loads", 3, x.step(0));
        CHECK.is("it has one that is LOADED", -1, x.assign());
        CHECK.is("enters", 10, x.step(0));
        x.tick(10);
        CHECK.is("ends", 4, x.step(0));
        has(x, 1, -1);
        CHECK.is("now it has none", 0, x.assign());
        CHECK.is("who had the first one", 0, x.of(0, 3));
        has(x, 1, 0);
    }

    private static void assignWithoutWay() {
        CarrierPaths x = new CarrierPaths(3);
        x.piece(0, 1, 5);
        x.carrier(0, 0);
        x.carrier(2, 0);
        x.job(1, 2);
        x.close(0, true);
        CHECK.is("no way along open pieces", -1, x.assign());
        has(x, 0, -1);
        x.close(0, false);
        CHECK.is("a way, whatever the charge", 5, x.assign());
        has(x, 0, 0);
        x.job(1, 2);
        CHECK.is("none from point 2", -1, x.assign());
    }

    private static void assignManyToMany() {
        CarrierPaths x = new CarrierPaths(10);
        for (int p = 0; p < 10; p++) {
            x.piece(p, (p + 1) % 10, 100);
        }
        x.places(1, 4);
        for (int c = 0; c < 6; c++) {
            CHECK.is("carrier", c, x.carrier(c < 4 ? 1 : 2, 9));
        }
        for (int j = 0; j < 12; j++) {
            x.job(j % 2, 5);
        }
        CHECK.is("four stand there, two go nearly round", 1600, x.assign());
        int[] carriers = {4, 0, 5, 1, -1, 2, -1, 3, -1, -1, -1, -1};
        for (int j = 0; j < 12; j++) {
            has(x, j, carriers[j]);
        }
    }
}
