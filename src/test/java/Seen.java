/** All that an object tells of itself, to see whether a call changed it. */
final class Seen {
    private Seen() {
    }

    /** For small yards: an object is good for 512 calls, and the ways take many of them. */
    static String in(CarrierPaths x) {
        StringBuilder seen = new StringBuilder(butWays(x));
        int points = x.count(0);
        for (int from = 0; from < points; from++) {
            seen.append("; ways");
            for (int to = 0; to < points; to++) {
                seen.append(' ').append(x.way(from, to, 0)).append('/').append(x.way(from, to, 1));
            }
        }
        return seen.toString();
    }

    static String butWays(CarrierPaths x) {
        StringBuilder seen = new StringBuilder();
        for (int what = 0; what <= 7; what++) {
            seen.append(' ').append(x.count(what));
        }
        rings(x, seen);
        points(x, seen);
        carriers(x, seen);
        jobs(x, seen);
        return seen.toString();
    }

    private static void rings(CarrierPaths x, StringBuilder seen) {
        int rings = x.count(7);
        seen.append("; rings");
        for (int r = 0; r < rings; r++) {
            seen.append(' ').append(x.count(10 + r));
        }
    }

    private static void points(CarrierPaths x, StringBuilder seen) {
        int points = x.count(0);
        for (int p = 0; p < points; p++) {
            seen.append("; point");
            for (int group = 20; group <= 40; group += 10) {
                seen.append(' ').append(x.count(group + p));
            }
        }
    }

    private static void carriers(CarrierPaths x, StringBuilder seen) {
        int carriers = x.count(2);
        for (int c = 0; c < carriers; c++) {
            seen.append("; carrier");
            for (int what = 0; what <= 6; what++) {
                seen.append(' ').append(x.look(c, what));
            }
        }
    }

    private static void jobs(CarrierPaths x, StringBuilder seen) {
        int jobs = x.count(3);
        for (int j = 0; j < jobs; j++) {
            seen.append("; job");
            for (int what = 0; what <= 3; what++) {
                seen.append(' ').append(x.of(j, what));
            }
        }
    }
}
