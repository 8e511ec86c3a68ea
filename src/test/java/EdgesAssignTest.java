/** Promise 8 and TO GIVE OUT: a test of its own for each sentence that names a boundary case. */
public final class EdgesAssignTest {
    private static final Check CHECK = new Check("EdgesAssignTest");

    public static void main(String[] args) {
        noneIsGivenOut();
        noTravelIsNotNone();
        onlyCarriersWithoutOne();
        onlyCarriersThatStand();
        onlyJobsThatWait();
        onlyWhereThereIsAWay();
        asManyAsThereCanBe();
        asManyAtAnyTravel();
        leastTravelOfAsMany();
        leastCarrierForTheLeastJob();
        notGivenOutIsMoreThanAny();
        thenTheNextJob();
        mostCarriersAndJobs();
        furthestTravel();
        givenOutAgain();
        CHECK.end();
    }

    private static void have(CarrierPaths x, int... carriers) {
        for (int job = 0; job < carriers.length; job++) {
            int carrier = carriers[job];
            CHECK.is("who has job " + job, carrier, x.of(job, 3));
            CHECK.is("what job " + job + " is", carrier == -1 ? 0 : 1, x.of(job, 2));
            if (carrier != -1) {
                CHECK.is("what carrier " + carrier + " has", job, x.look(carrier, 3));
            }
        }
    }

    private static void noneIsGivenOut() {
        CHECK.sentence("8: NONE if none is");
        CarrierPaths x = new CarrierPaths(2);
        CHECK.is("no carriers, no jobs", -1, x.assign());
        CarrierPaths jobs = new CarrierPaths(2);
        jobs.job(0, 1);
        CHECK.is("no carriers", -1, jobs.assign());
        have(jobs, -1);
        CarrierPaths carriers = new CarrierPaths(2);
        carriers.carrier(0, 10);
        CHECK.is("no jobs", -1, carriers.assign());
        CHECK.is("it has none", -1, carriers.look(0, 3));
        CarrierPaths far = new CarrierPaths(2);
        far.carrier(0, 10);
        far.job(1, 0);
        CHECK.is("no way", -1, far.assign());
        have(far, -1);
        CHECK.is("it has none", -1, far.look(0, 3));
    }

    private static void noTravelIsNotNone() {
        CHECK.sentence("8: the EMPTY TRAVEL, where there is nothing to go");
        CarrierPaths x = new CarrierPaths(2);
        x.carrier(0, 0);
        x.job(0, 1);
        CHECK.is("it stands there", 0, x.assign());
        have(x, 0);
        CHECK.is("none is left", -1, x.assign());
        have(x, 0);
    }

    private static void onlyCarriersWithoutOne() {
        CHECK.sentence("TO GIVE OUT: carriers without one get jobs; a carrier has one at most");
        CarrierPaths x = Edges.circle(2, 10);
        x.carrier(0, 100);
        x.job(0, 1);
        x.job(0, 1);
        CHECK.is("one of two", 0, x.assign());
        have(x, 0, -1);
        CHECK.is("its job is GIVEN", -1, x.assign());
        x.step(0);
        CHECK.is("its job is LOADED", -1, x.assign());
        x.step(0);
        x.tick(10);
        CHECK.is("it stands where its job ends", -1, x.assign());
        CHECK.is("ends", 4, x.step(0));
        CHECK.is("its job is ENDED", 10, x.assign());
        CHECK.is("it has the other one", 1, x.look(0, 3));
    }

    private static void onlyCarriersThatStand() {
        CHECK.sentence("TO GIVE OUT: carriers that stand at a point");
        CarrierPaths x = Edges.circle(3, 10);
        Edges.send(x, CHECK, 0, 1, 100);
        x.job(1, 2);
        CHECK.is("it is ON a piece", -1, x.assign());
        x.tick(10);
        CHECK.is("it stands, with its job", -1, x.assign());
        x.step(0);
        CHECK.is("it stands without one", 0, x.assign());
    }

    private static void onlyJobsThatWait() {
        CHECK.sentence("TO GIVE OUT: jobs that wait");
        CarrierPaths x = Edges.circle(2, 10);
        x.carrier(0, 100);
        x.job(0, 1);
        CHECK.is("it waits", 0, x.assign());
        x.carrier(0, 100);
        CHECK.is("it is GIVEN", -1, x.assign());
        x.step(0);
        CHECK.is("it is LOADED", -1, x.assign());
        x.step(0);
        x.tick(10);
        x.step(0);
        CHECK.is("it is ENDED", -1, x.assign());
        CHECK.is("the one that had it", 0, x.of(0, 3));
        CHECK.is("the first one has none", -1, x.look(0, 3));
        CHECK.is("the other one has none", -1, x.look(1, 3));
    }

    private static void onlyWhereThereIsAWay() {
        CHECK.sentence("TO GIVE OUT: each one to the beginning of which there is a way");
        CarrierPaths x = new CarrierPaths(3);
        x.piece(0, 1, 5);
        x.carrier(1, 100);
        x.job(0, 1);
        CHECK.is("a piece the other way is none", -1, x.assign());
        x.piece(1, 0, 100);
        x.close(1, true);
        CHECK.is("a closed piece is none", -1, x.assign());
        have(x, -1);
        x.close(1, false);
        CHECK.is("an open one is", 100, x.assign());
        have(x, 0);
        x.carrier(0, 0);
        x.job(1, 2);
        CHECK.is("without charge, and with no way to its end", 5, x.assign());
        have(x, 0, 1);
    }

    private static void asManyAsThereCanBe() {
        CHECK.sentence("TO GIVE OUT: as many as there can be");
        CarrierPaths x = new CarrierPaths(3);
        x.piece(0, 1, 100);
        x.piece(0, 2, 1);
        x.carrier(0, 9);
        x.carrier(2, 9);
        x.job(2, 0);
        x.job(1, 0);
        CHECK.is("carrier 1 can only have job 0", 100, x.assign());
        have(x, 1, 0);
        CarrierPaths fewJobs = Edges.circle(4, 10);
        fewJobs.carrier(0, 9);
        fewJobs.carrier(1, 9);
        fewJobs.carrier(2, 9);
        fewJobs.job(1, 0);
        CHECK.is("one job for three", 0, fewJobs.assign());
        have(fewJobs, 1);
        CHECK.is("carrier 0 has none", -1, fewJobs.look(0, 3));
        CHECK.is("carrier 2 has none", -1, fewJobs.look(2, 3));
    }

    /** Two jobs cost 4, four jobs 1600: no travel is so long that a job less is better. */
    private static void asManyAtAnyTravel() {
        CHECK.sentence("TO GIVE OUT: as many as there can be, before the least EMPTY TRAVEL");
        CarrierPaths x = new CarrierPaths(10);
        int[] wayToNine = {0, 2, 3, 4, 5, 9};
        for (int i = 0; i + 1 < wayToNine.length; i++) {
            x.piece(wayToNine[i], wayToNine[i + 1], 100);
        }
        int[] wayToEight = {1, 6, 7, 8};
        for (int i = 0; i + 1 < wayToEight.length; i++) {
            x.piece(wayToEight[i], wayToEight[i + 1], 100);
        }
        x.piece(1, 9, 2);
        for (int c = 0; c < 4; c++) {
            x.carrier(c % 2, 9);
        }
        for (int j = 0; j < 4; j++) {
            x.job(j < 2 ? 9 : 8, 0);
        }
        CHECK.is("four jobs", 1600, x.assign());
        have(x, 0, 2, 1, 3);
    }

    private static void leastTravelOfAsMany() {
        CHECK.sentence("TO GIVE OUT: of such the one with the least EMPTY TRAVEL");
        CarrierPaths x = new CarrierPaths(4);
        x.piece(0, 2, 10);
        x.piece(1, 2, 20);
        x.piece(0, 3, 20);
        x.piece(1, 3, 31);
        x.carrier(0, 9);
        x.carrier(1, 9);
        x.job(2, 0);
        x.job(3, 0);
        CHECK.is("20 and 20, not 10 and 31", 40, x.assign());
        have(x, 1, 0);
        CarrierPaths later = new CarrierPaths(3);
        later.piece(0, 1, 10);
        later.piece(0, 2, 9);
        later.carrier(0, 9);
        later.job(1, 0);
        later.job(2, 0);
        CHECK.is("the later job is nearer", 9, later.assign());
        have(later, -1, 0);
        CarrierPaths other = new CarrierPaths(3);
        other.piece(0, 2, 10);
        other.piece(1, 2, 9);
        other.carrier(0, 9);
        other.carrier(1, 9);
        other.job(2, 0);
        CHECK.is("the later carrier is nearer", 9, other.assign());
        have(other, 1);
    }

    private static void leastCarrierForTheLeastJob() {
        CHECK.sentence("TO GIVE OUT: of such the one in which the least job has the least carrier");
        CarrierPaths x = new CarrierPaths(4);
        x.piece(0, 2, 10);
        x.piece(1, 2, 20);
        x.piece(0, 3, 20);
        x.piece(1, 3, 30);
        x.carrier(1, 9);
        x.carrier(0, 9);
        x.job(2, 0);
        x.job(3, 0);
        CHECK.is("20 and 20, or 10 and 30", 40, x.assign());
        have(x, 0, 1);
        CarrierPaths y = new CarrierPaths(4);
        y.piece(0, 2, 10);
        y.piece(1, 2, 20);
        y.piece(0, 3, 20);
        y.piece(1, 3, 30);
        y.carrier(0, 9);
        y.carrier(1, 9);
        y.job(2, 0);
        y.job(3, 0);
        CHECK.is("10 and 30, or 20 and 20", 40, y.assign());
        have(y, 0, 1);
    }

    private static void notGivenOutIsMoreThanAny() {
        CHECK.sentence("TO GIVE OUT: one that is not given out counts as more than any");
        CarrierPaths x = new CarrierPaths(2);
        x.places(0, 4);
        for (int c = 0; c < 4; c++) {
            x.carrier(0, 9);
            x.job(0, 1);
        }
        CHECK.is("the first four", 0, x.assign());
        have(x, 0, 1, 2, 3);
        x.places(1, 4);
        x.carrier(1, 9);
        x.carrier(1, 9);
        x.job(1, 0);
        x.job(1, 0);
        x.job(1, 0);
        CHECK.is("the greatest carriers, not for the last job", 0, x.assign());
        have(x, 0, 1, 2, 3, 4, 5, -1);
        // Job 0 may go to carrier 1 or to none: any carrier is less than none.
        CarrierPaths y = new CarrierPaths(4);
        y.piece(1, 2, 5);
        y.piece(1, 3, 5);
        y.carrier(0, 9);
        y.carrier(1, 9);
        y.job(2, 0);
        y.job(3, 0);
        CHECK.is("only carrier 1 can go", 5, y.assign());
        have(y, 1, -1);
    }

    private static void thenTheNextJob() {
        CHECK.sentence("TO GIVE OUT: then the next one, and so on");
        CarrierPaths x = new CarrierPaths(3);
        x.places(0, 3);
        x.piece(0, 1, 4);
        x.piece(0, 2, 4);
        x.carrier(0, 9);
        x.carrier(0, 9);
        x.carrier(0, 9);
        x.job(2, 0);
        x.job(1, 0);
        x.job(0, 1);
        CHECK.is("all are alike", 8, x.assign());
        have(x, 0, 1, 2);
        // Job 0 has carrier 2 alone; then job 1 takes 0 and not 1, and job 2 takes what is left.
        CarrierPaths y = new CarrierPaths(4);
        y.piece(0, 2, 7);
        y.piece(0, 3, 7);
        y.carrier(0, 9);
        y.carrier(0, 9);
        y.carrier(1, 9);
        y.job(1, 0);
        y.job(3, 0);
        y.job(2, 0);
        y.job(3, 0);
        CHECK.is("job 3 is left", 14, y.assign());
        have(y, 2, 0, 1, -1);
    }

    private static void mostCarriersAndJobs() {
        CHECK.sentence("TO GIVE OUT: 6 carriers and 12 jobs");
        CarrierPaths x = Edges.circle(10, 100);
        for (int c = 0; c < 6; c++) {
            x.carrier(9 - c, 9);
        }
        for (int j = 0; j < 12; j++) {
            x.job(j < 6 ? j : 9, (j + 5) % 8);
        }
        // Jobs 4 and 5 begin where carriers 5 and 4 stand, jobs 6 on where carrier 0 does; the
        // carriers 1 to 3 have 100 to 300 to go to point 9, less than to point 0.
        CHECK.is("all carriers have one", 600, x.assign());
        have(x, -1, -1, -1, -1, 5, 4, 0, 1, 2, 3, -1, -1);
        CHECK.is("no carriers are left", -1, x.assign());
    }

    private static void furthestTravel() {
        CHECK.sentence("8: the EMPTY TRAVEL, as long as it can be");
        CarrierPaths x = Edges.circle(10, 100);
        x.places(1, 4);
        for (int c = 0; c < 6; c++) {
            x.carrier(c < 4 ? 1 : 2, 9);
        }
        for (int j = 0; j < 12; j++) {
            x.job(0, 5);
        }
        CHECK.is("four times 900, twice 800", 5200, x.assign());
        have(x, 0, 1, 2, 3, 4, 5, -1, -1, -1, -1, -1, -1);
    }

    /** What job 2 was worth when carrier 2 could have it must not count any more. */
    private static void givenOutAgain() {
        CHECK.sentence("8: Jobs are GIVEN OUT, once more with fewer carriers");
        CarrierPaths x = Edges.circle(6, 10);
        x.close(2, true);
        x.carrier(0, 100);
        x.carrier(0, 100);
        x.carrier(1, 100);
        x.job(4, 0);
        x.job(3, 0);
        x.job(1, 2);
        CHECK.is("there is a way to job 2 alone", 0, x.assign());
        have(x, -1, -1, 2);
        x.close(2, false);
        x.job(2, 0);
        CHECK.is("30 and 20, not 40", 50, x.assign());
        have(x, -1, 0, 2, 1);
    }
}
