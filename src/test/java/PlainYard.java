import java.util.ArrayList;
import java.util.Arrays;
import java.util.List;

/**
 * The document told once more in the plainest way, to compare answers with: everything is searched
 * anew at each call, jobs are given out by trying every choice.
 */
final class PlainYard {
    private static final int NONE = -1;

    private static final class Piece {
        int a;
        int b;
        int time;
        boolean closed;
    }

    private static final class Carrier {
        int stands;
        Piece on;
        int comes = NONE;
        Job job;
        int charge;
        int ended;
        int empty;

        boolean isBoundFor(int point) {
            return on == null ? stands == point : on.b == point;
        }
    }

    private static final class Job {
        int from;
        int to;
        int state;
        Carrier had;
    }

    private final int points;
    private final int[] places;
    private final boolean[] chargers;
    private final List<Piece> pieces = new ArrayList<>();
    private final List<Integer> rings = new ArrayList<>();
    private final List<Carrier> carriers = new ArrayList<>();
    private final List<Job> jobs = new ArrayList<>();
    private int now;

    PlainYard(int wanted) {
        points = wanted < 2 ? 2 : wanted > 10 ? 10 : wanted;
        places = new int[points];
        Arrays.fill(places, 2);
        chargers = new boolean[points];
    }

    private boolean isPoint(int p) {
        return 0 <= p && p < points;
    }

    private int bound(int point) {
        return (int) carriers.stream().filter(c -> c.isBoundFor(point)).count();
    }

    private int free(int ring) {
        int free = 0;
        for (int p = 0; p < points; p++) {
            if ((ring >> p & 1) == 1) {
                free += places[p] - bound(p);
            }
        }
        return free;
    }

    /** The least time to b from every point, NONE without a way: pieces are tried until none helps. */
    private int[] timesTo(int b) {
        int[] times = new int[points];
        Arrays.fill(times, NONE);
        times[b] = 0;
        boolean better = true;
        while (better) {
            better = false;
            for (Piece p : pieces) {
                boolean leads = !p.closed && times[p.b] != NONE;
                if (leads && (times[p.a] == NONE || times[p.b] + p.time < times[p.a])) {
                    times[p.a] = times[p.b] + p.time;
                    better = true;
                }
            }
        }
        return times;
    }

    private List<Piece> theWay(int a, int b) {
        int[] times = timesTo(b);
        if (times[a] == NONE) {
            return null;
        }
        List<Piece> way = new ArrayList<>();
        int at = a;
        while (at != b) {
            for (Piece p : pieces) {
                if (!p.closed && p.a == at && times[p.b] != NONE && times[at] == p.time + times[p.b]) {
                    way.add(p);
                    at = p.b;
                    break;
                }
            }
        }
        return way;
    }

    private static int time(List<Piece> way) {
        return way.stream().mapToInt(p -> p.time).sum();
    }

    int piece(int a, int b, int time) {
        if (!isPoint(a) || !isPoint(b) || a == b || time < 1 || time > 100) {
            throw new IllegalArgumentException();
        }
        if (pieces.size() == 30) {
            throw new IllegalStateException();
        }
        Piece p = new Piece();
        p.a = a;
        p.b = b;
        p.time = time;
        pieces.add(p);
        return pieces.size() - 1;
    }

    boolean places(int point, int n) {
        boolean can = isPoint(point) && 1 <= n && n <= 4 && bound(point) <= n;
        if (can) {
            places[point] = n;
        }
        return can;
    }

    boolean charger(int point, boolean is) {
        boolean can = isPoint(point) && chargers[point] != is;
        if (can) {
            chargers[point] = is;
        }
        return can;
    }

    int ring(int set) {
        if (set <= 0 || set >= 1 << points) {
            throw new IllegalArgumentException();
        }
        if (rings.size() == 4) {
            throw new IllegalStateException();
        }
        rings.add(set);
        return rings.size();
    }

    int carrier(int point, int charge) {
        if (!isPoint(point) || charge < 0 || charge > 1000) {
            throw new IllegalArgumentException();
        }
        if (carriers.size() == 6) {
            throw new IllegalStateException();
        }
        if (bound(point) == places[point]) {
            return NONE;
        }
        Carrier c = new Carrier();
        c.stands = point;
        c.charge = charge;
        carriers.add(c);
        return carriers.size() - 1;
    }

    int job(int from, int to) {
        if (!isPoint(from) || !isPoint(to) || from == to) {
            throw new IllegalArgumentException();
        }
        if (jobs.size() == 12) {
            throw new IllegalStateException();
        }
        Job j = new Job();
        j.from = from;
        j.to = to;
        jobs.add(j);
        return jobs.size() - 1;
    }

    /** One way to give out: which carrier each job has (the number of carriers: none). */
    private final class Choice {
        final int[] carrierOf = new int[jobs.size()];
        int given;
        int travel;

        boolean isBetterThan(Choice other) {
            if (given != other.given) {
                return given > other.given;
            }
            if (travel != other.travel) {
                return travel < other.travel;
            }
            return Arrays.compare(carrierOf, other.carrierOf) < 0;
        }
    }

    private Choice best;

    private void tryAll(int job, Choice choice, boolean[] taken, int[][] times) {
        if (job == jobs.size()) {
            if (best == null || choice.isBetterThan(best)) {
                best = new Choice();
                System.arraycopy(choice.carrierOf, 0, best.carrierOf, 0, job);
                best.given = choice.given;
                best.travel = choice.travel;
            }
            return;
        }
        for (int c = 0; c < carriers.size(); c++) {
            if (!taken[c] && times[job][c] != NONE) {
                taken[c] = true;
                choice.carrierOf[job] = c;
                choice.given++;
                choice.travel += times[job][c];
                tryAll(job + 1, choice, taken, times);
                taken[c] = false;
                choice.given--;
                choice.travel -= times[job][c];
            }
        }
        choice.carrierOf[job] = carriers.size();
        tryAll(job + 1, choice, taken, times);
    }

    int assign() {
        int[][] times = new int[jobs.size()][carriers.size()];
        for (int j = 0; j < jobs.size(); j++) {
            int[] timesTo = timesTo(jobs.get(j).from);
            for (int c = 0; c < carriers.size(); c++) {
                Carrier x = carriers.get(c);
                boolean can = jobs.get(j).state == 0 && x.on == null && x.job == null;
                times[j][c] = can ? timesTo[x.stands] : NONE;
            }
        }
        best = null;
        tryAll(0, new Choice(), new boolean[carriers.size()], times);
        for (int j = 0; j < jobs.size(); j++) {
            if (best.carrierOf[j] < carriers.size()) {
                Carrier c = carriers.get(best.carrierOf[j]);
                c.job = jobs.get(j);
                c.job.had = c;
                c.job.state = 1;
            }
        }
        return best.given == 0 ? NONE : best.travel;
    }

    private Carrier theCarrier(int n) {
        if (n < 0 || n >= carriers.size()) {
            throw new IndexOutOfBoundsException();
        }
        return carriers.get(n);
    }

    int step(int carrier) {
        Carrier c = theCarrier(carrier);
        if (c.on != null) {
            return 1;
        }
        if (c.job == null) {
            return 2;
        }
        if (c.job.state == 1 && c.stands == c.job.from) {
            c.job.state = 2;
            return 3;
        }
        if (c.job.state == 2 && c.stands == c.job.to) {
            c.job.state = 3;
            c.job = null;
            c.ended++;
            return 4;
        }
        List<Piece> way = theWay(c.stands, c.job.state == 1 ? c.job.from : c.job.to);
        if (way == null) {
            return 5;
        }
        Piece p = way.get(0);
        if (carriers.stream().anyMatch(other -> other.on == p)) {
            return 6;
        }
        if (bound(p.b) == places[p.b]) {
            return 7;
        }
        if (rings.stream().anyMatch(r -> (r >> p.b & 1) == 1 && (r >> p.a & 1) == 0 && free(r) < 2)) {
            return 8;
        }
        if (!reachesCharger(c.charge - p.time, p.b)) {
            return 9;
        }
        c.on = p;
        c.comes = now + p.time;
        c.charge -= p.time;
        c.empty += c.job.state == 2 ? 0 : p.time;
        return 10;
    }

    private boolean reachesCharger(int charge, int from) {
        for (int p = 0; p < points; p++) {
            List<Piece> way = theWay(from, p);
            if (chargers[p] && way != null && time(way) <= charge) {
                return true;
            }
        }
        return false;
    }

    int tick(int time) {
        if (time < now || time > 1000000) {
            throw new IllegalArgumentException();
        }
        now = time;
        int came = 0;
        for (Carrier c : carriers) {
            if (c.on != null && c.comes <= now) {
                c.stands = c.on.b;
                c.on = null;
                c.comes = NONE;
                came++;
            }
        }
        return came;
    }

    boolean close(int piece, boolean is) {
        boolean can = piece >= 0 && piece < pieces.size() && pieces.get(piece).closed != is;
        if (can) {
            pieces.get(piece).closed = is;
        }
        return can;
    }

    boolean charge(int carrier) {
        Carrier c = theCarrier(carrier);
        boolean can = c.on == null && chargers[c.stands];
        if (can) {
            c.charge = 1000;
        }
        return can;
    }

    int way(int a, int b, int what) {
        if (!isPoint(a) || !isPoint(b) || what < 0 || what > 2) {
            throw new IllegalArgumentException();
        }
        List<Piece> way = theWay(a, b);
        if (way == null) {
            return NONE;
        }
        if (what == 0) {
            return time(way);
        }
        return what == 2 ? way.size() : way.isEmpty() ? NONE : pieces.indexOf(way.get(0));
    }

    int look(int carrier, int what) {
        Carrier c = theCarrier(carrier);
        if (what < 0 || what > 6) {
            throw new IndexOutOfBoundsException();
        }
        int[] answers = {c.on == null ? c.stands : c.on.b, pieces.indexOf(c.on), c.comes,
            jobs.indexOf(c.job), c.charge, c.ended, c.empty};
        return answers[what];
    }

    int of(int job, int what) {
        if (job < 0 || job >= jobs.size() || what < 0 || what > 3) {
            throw new IndexOutOfBoundsException();
        }
        Job j = jobs.get(job);
        int[] answers = {j.from, j.to, j.state, carriers.indexOf(j.had)};
        return answers[what];
    }

    int count(int what) {
        if (what >= 0 && what <= 7) {
            int[] answers = {points, pieces.size(), carriers.size(), jobs.size(), now,
                (int) jobs.stream().filter(j -> j.state == 3).count(),
                (int) pieces.stream().filter(p -> carriers.stream().anyMatch(c -> c.on == p)).count(),
                rings.size()};
            return answers[what];
        }
        if (what >= 10 && what < 10 + rings.size()) {
            return free(rings.get(what - 10));
        }
        if (what >= 20 && what < 20 + points) {
            return places[what - 20];
        }
        if (what >= 30 && what < 30 + points) {
            return bound(what - 30);
        }
        if (what >= 40 && what < 40 + points) {
            return chargers[what - 40] ? 1 : 0;
        }
        return NONE;
    }
}
