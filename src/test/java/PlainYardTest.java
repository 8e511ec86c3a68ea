import java.util.Random;
import java.util.function.IntSupplier;

/**
 * All promises at once: many runs of up to 512 calls by chance (the same ones each time), every
 * answer compared with PlainYard's. Numbers at and beyond the edges come up in every place, so what
 * throws or is refused is followed by looks at what it must have left alone.
 */
public final class PlainYardTest {
    private static final Check CHECK = new Check("PlainYardTest");
    private static final int RUNS = 3000;
    private static final int CALLS = 512;
    private static final int[] EDGES = {-1, 0, 1, 2, 3, 4, 6, 7, 9, 10, 12, 30, 31, 32, 50, 100, 101,
        1000, 1001, 1000000, 1000001, Integer.MAX_VALUE, Integer.MIN_VALUE, Integer.MIN_VALUE + 1};

    private final Random chance;
    private final int run;
    private final int points;
    private final CarrierPaths x;
    private final PlainYard due;
    private final boolean[] steps;

    private PlainYardTest(int run, boolean[] steps) {
        this.run = run;
        this.chance = new Random(run);
        int wanted = upTo(14) - 1;
        this.points = Math.max(2, Math.min(10, wanted));
        this.x = new CarrierPaths(wanted);
        this.due = new PlainYard(wanted);
        this.steps = steps;
    }

    public static void main(String[] args) {
        boolean[] steps = new boolean[11];
        for (int run = 0; run < RUNS; run++) {
            new PlainYardTest(run, steps).calls();
        }
        for (int answer = 1; answer <= 10; answer++) {
            CHECK.yes("some step answered " + answer, steps[answer]);
        }
        CHECK.end();
    }

    private int upTo(int bound) {
        return chance.nextInt(bound);
    }

    /** Mostly a number below the bound, now and then one at or beyond an edge. */
    private int number(int bound) {
        return upTo(40) == 0 ? EDGES[upTo(EDGES.length)] : upTo(bound);
    }

    private void calls() {
        int made = 0;
        int first = 2 * points + upTo(20);
        while (made < first) {
            build();
            made++;
        }
        int busy = 2 + upTo(8);
        while (made < CALLS) {
            if (upTo(10) < busy) {
                work();
            } else if (upTo(6) == 0) {
                build();
            } else {
                lookAt();
            }
            made++;
        }
    }

    private void build() {
        int a = number(points);
        int b = number(points);
        boolean is = upTo(4) != 0;
        switch (upTo(12)) {
            case 0:
                int n = 1 + number(4);
                same("places " + a + " " + n, () -> bit(x.places(a, n)), () -> bit(due.places(a, n)));
                break;
            case 1:
                same("charger " + a, () -> bit(x.charger(a, is)), () -> bit(due.charger(a, is)));
                break;
            case 2:
                int set = upTo(3) == 0 ? number(1 << points) : 1 << upTo(points) | 1 << upTo(points);
                same("ring " + set, () -> x.ring(set), () -> due.ring(set));
                break;
            case 3:
            case 4:
                int charge = number(upTo(2) == 0 ? 1001 : 150);
                same("carrier " + a + " " + charge, () -> x.carrier(a, charge),
                        () -> due.carrier(a, charge));
                break;
            case 5:
                same("job " + a + " " + b, () -> x.job(a, b), () -> due.job(a, b));
                break;
            default:
                int time = 1 + number(upTo(3) == 0 ? 100 : 4);
                same("piece " + a + " " + b + " " + time, () -> x.piece(a, b, time),
                        () -> due.piece(a, b, time));
                break;
        }
    }

    private void work() {
        int carrier = number(6);
        switch (upTo(16)) {
            case 0:
                same("assign", x::assign, due::assign);
                break;
            case 1:
                int a = number(points);
                int b = number(points);
                same("job " + a + " " + b, () -> x.job(a, b), () -> due.job(a, b));
                break;
            case 2:
                int piece = number(30);
                boolean is = upTo(3) == 0;
                same("close " + piece + " " + is, () -> bit(x.close(piece, is)),
                        () -> bit(due.close(piece, is)));
                break;
            case 3:
                same("charge " + carrier, () -> bit(x.charge(carrier)), () -> bit(due.charge(carrier)));
                break;
            case 4:
            case 5:
            case 6:
                int time = upTo(2000) == 0 ? EDGES[upTo(EDGES.length)] : due.count(4) + upTo(12) - 1;
                same("tick " + time, () -> x.tick(time), () -> due.tick(time));
                break;
            default:
                int did = same("step " + carrier, () -> x.step(carrier), () -> due.step(carrier));
                if (did >= 1 && did <= 10) {
                    steps[did] = true;
                }
                break;
        }
    }

    private void lookAt() {
        int number = number(12);
        int what = number(8);
        switch (upTo(4)) {
            case 0:
                int carrier = upTo(4) == 0 ? number : upTo(6);
                same("look " + carrier + " " + what, () -> x.look(carrier, what),
                        () -> due.look(carrier, what));
                break;
            case 1:
                int detail = what % 5;
                same("of " + number + " " + detail, () -> x.of(number, detail),
                        () -> due.of(number, detail));
                break;
            case 2:
                int a = number(points);
                int b = number(points);
                int which = number(3);
                same("way " + a + " " + b + " " + which, () -> x.way(a, b, which),
                        () -> due.way(a, b, which));
                break;
            default:
                int counted = number(52) - 1;
                same("count " + counted, () -> x.count(counted), () -> due.count(counted));
                break;
        }
    }

    private static int bit(boolean is) {
        return is ? 1 : 0;
    }

    private int same(String call, IntSupplier got, IntSupplier wanted) {
        String answer = answerOf(got);
        String want = answerOf(wanted);
        boolean alike = answer.equals(want);
        CHECK.is("run " + run + ", " + call + " (" + answer + ", due is " + want + "): alike", 1, bit(alike));
        return alike && !want.startsWith("throws") ? Integer.parseInt(want) : 0;
    }

    private static String answerOf(IntSupplier call) {
        try {
            return Integer.toString(call.getAsInt());
        } catch (RuntimeException e) {
            return "throws " + e.getClass().getName();
        }
    }
}
