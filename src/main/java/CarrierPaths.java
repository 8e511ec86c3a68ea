/**
 * Carriers on the roads of a yard, as ../shared/DOC.md promises.
 *
 * <p>The face looks at every number that comes from outside before it hands it on. The classes
 * inside are therefore only asked about points, pieces, carriers and jobs that there are, and all
 * their rows are made once, as long as the document lets them become.
 */
public final class CarrierPaths {
    public static final int NONE = -1;

    private static final int LEAST_POINTS = 2;
    private static final int MOST_POINTS = 10;
    private static final int MOST_PIECES = 30;
    private static final int MOST_RINGS = 4;
    private static final int MOST_CARRIERS = 6;
    private static final int MOST_JOBS = 12;

    private static final int PLACES_AT_FIRST = 2;
    private static final int MOST_PLACES = 4;
    private static final int LONGEST_TIME = 100;
    private static final int FULL_CHARGE = 1000;
    private static final int LAST_NOW = 1000000;

    /** Stands for "no way": more than any way's time or any charge, and sums of it stay an int. */
    private static final int FAR = 1000000;

    private static final int WAITS = 0;
    private static final int GIVEN = 1;
    private static final int LOADED = 2;
    private static final int ENDED = 3;

    private static final int IS_ON_A_PIECE = 1;
    private static final int HAS_NO_JOB = 2;
    private static final int LOADS = 3;
    private static final int ENDS = 4;
    private static final int FINDS_NO_WAY = 5;
    private static final int FINDS_PIECE_TAKEN = 6;
    private static final int FINDS_END_FULL = 7;
    private static final int MUST_LEAVE_A_PLACE = 8;
    private static final int LACKS_CHARGE = 9;
    private static final int ENTERS = 10;

    private final Points points;
    private final Roads roads;
    private final Rings rings;
    private final Fleet fleet;
    private final Jobs jobs;
    private final Choice choice;
    private int now;

    public CarrierPaths(int points) {
        int held = Math.max(LEAST_POINTS, Math.min(MOST_POINTS, points));
        this.points = new Points(held);
        this.roads = new Roads(held);
        this.rings = new Rings();
        this.fleet = new Fleet();
        this.jobs = new Jobs();
        this.choice = new Choice();
        this.now = 0;
    }

    public int piece(int a, int b, int time)
            throws IllegalArgumentException, IllegalStateException {
        if (!points.areTwo(a, b)) {
            throw new IllegalArgumentException("not two points");
        }
        if (time < 1 || time > LONGEST_TIME) {
            throw new IllegalArgumentException("no such time");
        }
        if (roads.size() >= MOST_PIECES) {
            throw new IllegalStateException("no more pieces");
        }
        return roads.add(a, b, time);
    }

    public boolean places(int point, int n) {
        if (!points.has(point) || n < 1 || n > MOST_PLACES || n < fleet.boundFor(point)) {
            return false;
        }
        points.setPlaces(point, n);
        return true;
    }

    public boolean charger(int point, boolean is) {
        if (!points.has(point) || points.hasCharger(point) == is) {
            return false;
        }
        points.setCharger(point, is);
        return true;
    }

    public int ring(int points) throws IllegalArgumentException, IllegalStateException {
        if (points == 0 || (points & ~this.points.asBits()) != 0) {
            throw new IllegalArgumentException("not a set of points");
        }
        if (rings.size() >= MOST_RINGS) {
            throw new IllegalStateException("no more rings");
        }
        return rings.add(points);
    }

    public int carrier(int point, int charge)
            throws IllegalArgumentException, IllegalStateException {
        if (!points.has(point)) {
            throw new IllegalArgumentException("no such point");
        }
        if (charge < 0 || charge > FULL_CHARGE) {
            throw new IllegalArgumentException("no such charge");
        }
        if (fleet.size() >= MOST_CARRIERS) {
            throw new IllegalStateException("no more carriers");
        }
        return isFull(point) ? NONE : fleet.add(point, charge);
    }

    public int job(int from, int to) throws IllegalArgumentException, IllegalStateException {
        if (!points.areTwo(from, to)) {
            throw new IllegalArgumentException("not two points");
        }
        if (jobs.size() >= MOST_JOBS) {
            throw new IllegalStateException("no more jobs");
        }
        return jobs.add(from, to);
    }

    public int assign() {
        offerJobs();
        choice.settle();
        return giveOut();
    }

    public int step(int carrier) throws IndexOutOfBoundsException {
        if (!fleet.has(carrier)) {
            throw new IndexOutOfBoundsException("no such carrier");
        }
        if (fleet.isOnPiece(carrier)) {
            return IS_ON_A_PIECE;
        }
        int job = fleet.jobOf(carrier);
        if (job == NONE) {
            return HAS_NO_JOB;
        }
        if (fleet.pointOf(carrier) != jobs.goalOf(job)) {
            return goOn(carrier, job);
        }
        return jobs.isLoaded(job) ? end(carrier, job) : load(job);
    }

    public int tick(int time) throws IllegalArgumentException {
        if (time < now || time > LAST_NOW) {
            throw new IllegalArgumentException("no such time, or it is over");
        }
        now = time;
        return fleet.arrive(time);
    }

    public boolean close(int piece, boolean is) {
        if (!roads.has(piece) || roads.isClosed(piece) == is) {
            return false;
        }
        roads.setClosed(piece, is);
        return true;
    }

    public boolean charge(int carrier) throws IndexOutOfBoundsException {
        if (!fleet.has(carrier)) {
            throw new IndexOutOfBoundsException("no such carrier");
        }
        if (fleet.isOnPiece(carrier) || !points.hasCharger(fleet.pointOf(carrier))) {
            return false;
        }
        fleet.chargeUp(carrier);
        return true;
    }

    public int way(int a, int b, int what) throws IllegalArgumentException {
        if (!points.has(a) || !points.has(b)) {
            throw new IllegalArgumentException("no such points");
        }
        switch (what) {
            case 0:
                return roads.hasWay(a, b) ? roads.leastTime(a, b) : NONE;
            case 1:
                return roads.firstPiece(a, b);
            case 2:
                return roads.hasWay(a, b) ? roads.piecesOnWay(a, b) : NONE;
            default:
                throw new IllegalArgumentException("no such what");
        }
    }

    public int look(int carrier, int what) throws IndexOutOfBoundsException {
        if (!fleet.has(carrier)) {
            throw new IndexOutOfBoundsException("no such carrier");
        }
        switch (what) {
            case 0:
                return fleet.pointOf(carrier);
            case 1:
                return fleet.pieceOf(carrier);
            case 2:
                return fleet.arrivalOf(carrier);
            case 3:
                return fleet.jobOf(carrier);
            case 4:
                return fleet.chargeOf(carrier);
            case 5:
                return fleet.endedBy(carrier);
            case 6:
                return fleet.emptyTimeOf(carrier);
            default:
                throw new IndexOutOfBoundsException("no such what");
        }
    }

    public int of(int job, int what) throws IndexOutOfBoundsException {
        if (!jobs.has(job)) {
            throw new IndexOutOfBoundsException("no such job");
        }
        switch (what) {
            case 0:
                return jobs.fromOf(job);
            case 1:
                return jobs.toOf(job);
            case 2:
                return jobs.stateOf(job);
            case 3:
                return jobs.carrierOf(job);
            default:
                throw new IndexOutOfBoundsException("no such what");
        }
    }

    public int count(int what) {
        // floorDiv and floorMod, so that a what below 0 falls into no group.
        int number = Math.floorMod(what, 10);
        switch (Math.floorDiv(what, 10)) {
            case 0:
                return countInAll(number);
            case 1:
                return rings.has(number) ? freePlaces(rings.bitsOf(number)) : NONE;
            case 2:
                return points.has(number) ? points.placesOf(number) : NONE;
            case 3:
                return points.has(number) ? fleet.boundFor(number) : NONE;
            case 4:
                return points.has(number) ? asNumber(points.hasCharger(number)) : NONE;
            default:
                return NONE;
        }
    }

    private int countInAll(int what) {
        switch (what) {
            case 0:
                return points.size();
            case 1:
                return roads.size();
            case 2:
                return fleet.size();
            case 3:
                return jobs.size();
            case 4:
                return now;
            case 5:
                return jobs.ended();
            case 6:
                return fleet.onPieces();
            case 7:
                return rings.size();
            default:
                return NONE;
        }
    }

    private static int asNumber(boolean is) {
        return is ? 1 : 0;
    }

    private void offerJobs() {
        choice.begin(jobs.size(), fleet.size());
        for (int job = 0; job < jobs.size(); job++) {
            for (int carrier = 0; carrier < fleet.size(); carrier++) {
                int travel = emptyTravel(carrier, job);
                if (jobs.isWaiting(job) && fleet.isIdle(carrier) && travel < FAR) {
                    choice.offer(job, carrier, travel);
                }
            }
        }
    }

    private int giveOut() {
        int travel = 0;
        int given = 0;
        for (int job = 0; job < jobs.size(); job++) {
            int carrier = choice.carrierFor(job);
            if (carrier != NONE) {
                jobs.give(job, carrier);
                fleet.takeJob(carrier, job);
                travel += emptyTravel(carrier, job);
                given++;
            }
        }
        return given == 0 ? NONE : travel;
    }

    private int emptyTravel(int carrier, int job) {
        return roads.leastTime(fleet.pointOf(carrier), jobs.fromOf(job));
    }

    private int load(int job) {
        jobs.setState(job, LOADED);
        return LOADS;
    }

    private int end(int carrier, int job) {
        jobs.setState(job, ENDED);
        fleet.endJob(carrier);
        return ENDS;
    }

    private int goOn(int carrier, int job) {
        int piece = roads.firstPiece(fleet.pointOf(carrier), jobs.goalOf(job));
        if (piece == NONE) {
            return FINDS_NO_WAY;
        }
        int end = roads.endOf(piece);
        if (fleet.isTaken(piece)) {
            return FINDS_PIECE_TAKEN;
        }
        if (isFull(end)) {
            return FINDS_END_FULL;
        }
        if (fillsRing(roads.beginningOf(piece), end)) {
            return MUST_LEAVE_A_PLACE;
        }
        int time = roads.timeOf(piece);
        if (fleet.chargeOf(carrier) < time + timeToCharger(end)) {
            return LACKS_CHARGE;
        }
        fleet.enter(carrier, piece, end, time, now);
        if (!jobs.isLoaded(job)) {
            fleet.addEmptyTime(carrier, time);
        }
        return ENTERS;
    }

    private boolean isFull(int point) {
        return fleet.boundFor(point) >= points.placesOf(point);
    }

    private int freePlaces(int ring) {
        int free = 0;
        for (int point = 0; point < points.size(); point++) {
            if (isIn(ring, point)) {
                free += points.placesOf(point) - fleet.boundFor(point);
            }
        }
        return free;
    }

    private static boolean isIn(int ring, int point) {
        return (ring & (1 << point)) != 0;
    }

    /** Whether a carrier that goes so would enter a ring and leave no place free in it. */
    private boolean fillsRing(int beginning, int end) {
        for (int number = 0; number < rings.size(); number++) {
            int ring = rings.bitsOf(number);
            if (isIn(ring, end) && !isIn(ring, beginning) && freePlaces(ring) <= 1) {
                return true;
            }
        }
        return false;
    }

    private int timeToCharger(int point) {
        int nearest = FAR;
        for (int other = 0; other < points.size(); other++) {
            if (points.hasCharger(other)) {
                nearest = Math.min(nearest, roads.leastTime(point, other));
            }
        }
        return nearest;
    }

    /** The points with their places and chargers. */
    private static final class Points {
        private final int size;
        private final int[] rooms = new int[MOST_POINTS];
        private final boolean[] chargers = new boolean[MOST_POINTS];

        Points(int size) {
            this.size = size;
            for (int point = 0; point < MOST_POINTS; point++) {
                rooms[point] = PLACES_AT_FIRST;
            }
        }

        int size() {
            return size;
        }

        boolean has(int point) {
            return point >= 0 && point < size;
        }

        boolean areTwo(int a, int b) {
            return has(a) && has(b) && a != b;
        }

        int asBits() {
            return (1 << size) - 1;
        }

        int placesOf(int point) {
            return rooms[point];
        }

        void setPlaces(int point, int n) {
            rooms[point] = n;
        }

        boolean hasCharger(int point) {
            return chargers[point];
        }

        void setCharger(int point, boolean is) {
            chargers[point] = is;
        }
    }

    /** The pieces, and the least time from each point to each other one along the open ones. */
    private static final class Roads {
        private final int points;
        private final int[] beginnings = new int[MOST_PIECES];
        private final int[] ends = new int[MOST_PIECES];
        private final int[] times = new int[MOST_PIECES];
        private final boolean[] closed = new boolean[MOST_PIECES];
        private final int[] leastTimes = new int[MOST_POINTS * MOST_POINTS];
        private int size;

        Roads(int points) {
            this.points = points;
            this.size = 0;
            forgetTimes();
        }

        int size() {
            return size;
        }

        boolean has(int piece) {
            return piece >= 0 && piece < size;
        }

        int add(int a, int b, int time) {
            int piece = size;
            beginnings[piece] = a;
            ends[piece] = b;
            times[piece] = time;
            size++;
            shortenBy(piece);
            return piece;
        }

        int beginningOf(int piece) {
            return beginnings[piece];
        }

        int endOf(int piece) {
            return ends[piece];
        }

        int timeOf(int piece) {
            return times[piece];
        }

        boolean isClosed(int piece) {
            return closed[piece];
        }

        void setClosed(int piece, boolean is) {
            closed[piece] = is;
            if (is) {
                measureAnew();
            } else {
                shortenBy(piece);
            }
        }

        boolean hasWay(int a, int b) {
            return leastTime(a, b) < FAR;
        }

        /** FAR if there is no way. */
        int leastTime(int a, int b) {
            return leastTimes[a * MOST_POINTS + b];
        }

        /** NONE if there is no way, or nothing to go. */
        int firstPiece(int a, int b) {
            int least = leastTime(a, b);
            for (int piece = 0; piece < size; piece++) {
                if (!closed[piece] && beginnings[piece] == a
                        && times[piece] + leastTime(ends[piece], b) == least) {
                    return piece;
                }
            }
            return NONE;
        }

        /** THE WAY comes to no point twice, so it has fewer pieces than there are points. */
        int piecesOnWay(int a, int b) {
            int passed = 0;
            int piece = firstPiece(a, b);
            while (piece != NONE && passed < points) {
                passed++;
                piece = firstPiece(ends[piece], b);
            }
            return passed;
        }

        private void measureAnew() {
            forgetTimes();
            for (int piece = 0; piece < size; piece++) {
                if (!closed[piece]) {
                    shortenBy(piece);
                }
            }
        }

        private void forgetTimes() {
            for (int a = 0; a < MOST_POINTS; a++) {
                for (int b = 0; b < MOST_POINTS; b++) {
                    leastTimes[a * MOST_POINTS + b] = a == b ? 0 : FAR;
                }
            }
        }

        /** A way of least time goes along no piece twice, so one look at each pair is enough. */
        private void shortenBy(int piece) {
            for (int a = 0; a < points; a++) {
                int through = leastTime(a, beginnings[piece]) + times[piece];
                for (int b = 0; b < points; b++) {
                    leastTimes[a * MOST_POINTS + b] =
                            Math.min(leastTime(a, b), through + leastTime(ends[piece], b));
                }
            }
        }
    }

    /** The rings, each a set of points as bits. */
    private static final class Rings {
        private final int[] sets = new int[MOST_RINGS];
        private int size;

        Rings() {
            this.size = 0;
        }

        int size() {
            return size;
        }

        boolean has(int ring) {
            return ring >= 0 && ring < size;
        }

        int add(int points) {
            sets[size] = points;
            size++;
            return size;
        }

        int bitsOf(int ring) {
            return sets[ring];
        }
    }

    /**
     * The carriers. A carrier ON a piece has that piece's end as its point already, as it takes a
     * place there from when it enters.
     */
    private static final class Fleet {
        private final int[] at = new int[MOST_CARRIERS];
        private final int[] on = new int[MOST_CARRIERS];
        private final int[] arrivals = new int[MOST_CARRIERS];
        private final int[] holds = new int[MOST_CARRIERS];
        private final int[] charges = new int[MOST_CARRIERS];
        private final int[] endedJobs = new int[MOST_CARRIERS];
        private final int[] emptyTimes = new int[MOST_CARRIERS];
        private int size;

        Fleet() {
            this.size = 0;
        }

        int size() {
            return size;
        }

        boolean has(int carrier) {
            return carrier >= 0 && carrier < size;
        }

        int add(int point, int charge) {
            int carrier = size;
            at[carrier] = point;
            on[carrier] = NONE;
            arrivals[carrier] = NONE;
            holds[carrier] = NONE;
            charges[carrier] = charge;
            size++;
            return carrier;
        }

        int pointOf(int carrier) {
            return at[carrier];
        }

        int pieceOf(int carrier) {
            return on[carrier];
        }

        int arrivalOf(int carrier) {
            return arrivals[carrier];
        }

        int jobOf(int carrier) {
            return holds[carrier];
        }

        int chargeOf(int carrier) {
            return charges[carrier];
        }

        int endedBy(int carrier) {
            return endedJobs[carrier];
        }

        int emptyTimeOf(int carrier) {
            return emptyTimes[carrier];
        }

        boolean isOnPiece(int carrier) {
            return on[carrier] != NONE;
        }

        boolean isIdle(int carrier) {
            return !isOnPiece(carrier) && holds[carrier] == NONE;
        }

        boolean isTaken(int piece) {
            for (int carrier = 0; carrier < size; carrier++) {
                if (on[carrier] == piece) {
                    return true;
                }
            }
            return false;
        }

        /** How many stand at a point or are ON a piece to it. */
        int boundFor(int point) {
            int bound = 0;
            for (int carrier = 0; carrier < size; carrier++) {
                if (at[carrier] == point) {
                    bound++;
                }
            }
            return bound;
        }

        /** No two are ON one piece, so the carriers count the pieces. */
        int onPieces() {
            int pieces = 0;
            for (int carrier = 0; carrier < size; carrier++) {
                if (isOnPiece(carrier)) {
                    pieces++;
                }
            }
            return pieces;
        }

        void takeJob(int carrier, int job) {
            holds[carrier] = job;
        }

        void endJob(int carrier) {
            holds[carrier] = NONE;
            endedJobs[carrier]++;
        }

        void chargeUp(int carrier) {
            charges[carrier] = FULL_CHARGE;
        }

        void enter(int carrier, int piece, int end, int time, int now) {
            on[carrier] = piece;
            at[carrier] = end;
            arrivals[carrier] = now + time;
            charges[carrier] -= time;
        }

        void addEmptyTime(int carrier, int time) {
            emptyTimes[carrier] += time;
        }

        /** How many come to the end of their piece by a time. */
        int arrive(int time) {
            int arrived = 0;
            for (int carrier = 0; carrier < size; carrier++) {
                if (isOnPiece(carrier) && arrivals[carrier] <= time) {
                    on[carrier] = NONE;
                    arrivals[carrier] = NONE;
                    arrived++;
                }
            }
            return arrived;
        }
    }

    /** The jobs and who has or had them. */
    private static final class Jobs {
        private final int[] froms = new int[MOST_JOBS];
        private final int[] tos = new int[MOST_JOBS];
        private final int[] states = new int[MOST_JOBS];
        private final int[] holders = new int[MOST_JOBS];
        private int size;

        Jobs() {
            this.size = 0;
        }

        int size() {
            return size;
        }

        boolean has(int job) {
            return job >= 0 && job < size;
        }

        int add(int from, int to) {
            int job = size;
            froms[job] = from;
            tos[job] = to;
            states[job] = WAITS;
            holders[job] = NONE;
            size++;
            return job;
        }

        int fromOf(int job) {
            return froms[job];
        }

        int toOf(int job) {
            return tos[job];
        }

        int stateOf(int job) {
            return states[job];
        }

        int carrierOf(int job) {
            return holders[job];
        }

        boolean isWaiting(int job) {
            return states[job] == WAITS;
        }

        boolean isLoaded(int job) {
            return states[job] == LOADED;
        }

        /** Where the carrier that has it is to go. */
        int goalOf(int job) {
            return isLoaded(job) ? tos[job] : froms[job];
        }

        int ended() {
            int ended = 0;
            for (int job = 0; job < size; job++) {
                if (states[job] == ENDED) {
                    ended++;
                }
            }
            return ended;
        }

        void setState(int job, int state) {
            states[job] = state;
        }

        void give(int job, int carrier) {
            states[job] = GIVEN;
            holders[job] = carrier;
        }
    }

    /**
     * Which carrier each job is given to, of those that it is offered to. What a choice is worth
     * is one number, A_JOB for each job given less the empty travel, so that the most jobs come
     * first and the least travel second. The best worth is kept for each job on and each set of
     * carriers that earlier jobs have taken; then each job in turn takes the least carrier with
     * which the best is still reached.
     */
    private static final class Choice {
        /** More than the empty travel of all carriers together can be. */
        private static final int A_JOB = MOST_CARRIERS * MOST_POINTS * LONGEST_TIME;

        /** By job and carrier; 0 where the job is not offered. */
        private final int[] worths = new int[MOST_JOBS * MOST_CARRIERS];
        /** By job and taken carriers; the row behind the last job is never written and stays 0. */
        private final int[] best = new int[(MOST_JOBS + 1) << MOST_CARRIERS];
        private final int[] chosen = new int[MOST_JOBS];
        private int jobCount;
        private int carrierCount;
        /** The carriers to which some job is offered, as bits: only their sets matter. */
        private int able;

        Choice() {
            this.jobCount = 0;
            this.carrierCount = 0;
            this.able = 0;
        }

        void begin(int jobCount, int carrierCount) {
            this.jobCount = jobCount;
            this.carrierCount = carrierCount;
            this.able = 0;
            for (int i = 0; i < worths.length; i++) {
                worths[i] = 0;
            }
        }

        void offer(int job, int carrier, int travel) {
            worths[job * MOST_CARRIERS + carrier] = A_JOB - travel;
            able |= 1 << carrier;
        }

        void settle() {
            for (int job = jobCount - 1; job >= 0; job--) {
                findBest(job);
            }
            int taken = 0;
            for (int job = 0; job < jobCount; job++) {
                int carrier = leastCarrier(job, taken);
                chosen[job] = carrier;
                taken |= carrier == NONE ? 0 : 1 << carrier;
            }
        }

        /** NONE if the job is not given out. */
        int carrierFor(int job) {
            return chosen[job];
        }

        private void findBest(int job) {
            for (int taken = 0; taken <= able; taken++) {
                if ((taken & ~able) == 0) {
                    best[(job << MOST_CARRIERS) + taken] = mostWorth(job, taken);
                }
            }
        }

        private int mostWorth(int job, int taken) {
            int most = bestFrom(job + 1, taken);
            for (int carrier = 0; carrier < carrierCount; carrier++) {
                if (canTake(job, carrier, taken)) {
                    most = Math.max(most, worthWith(job, carrier, taken));
                }
            }
            return most;
        }

        /** NONE if the best is reached only where the job is not given out. */
        private int leastCarrier(int job, int taken) {
            for (int carrier = 0; carrier < carrierCount; carrier++) {
                if (canTake(job, carrier, taken)
                        && worthWith(job, carrier, taken) == bestFrom(job, taken)) {
                    return carrier;
                }
            }
            return NONE;
        }

        private boolean canTake(int job, int carrier, int taken) {
            return worthOf(job, carrier) > 0 && (taken & (1 << carrier)) == 0;
        }

        private int worthWith(int job, int carrier, int taken) {
            return worthOf(job, carrier) + bestFrom(job + 1, taken | (1 << carrier));
        }

        private int worthOf(int job, int carrier) {
            return worths[job * MOST_CARRIERS + carrier];
        }

        private int bestFrom(int job, int taken) {
            return best[(job << MOST_CARRIERS) + taken];
        }
    }
}
