import java.util.ArrayList;
import java.util.List;
import java.util.Random;

/** Promises 6 to 15, 19 to 23 on pavements made by chance, against the plodding answers. */
public final class OracleTest {
    private static int compared = 0;

    public static void main(String[] args) {
        for (int seed = 0; seed < 500; seed++) {
            Random random = new Random(seed);
            Naive due = new Naive(random, 6 + random.nextInt(60));
            SlabWalk x = Due.on(due.text.toString());
            Due.due("units of: " + due.text, x.about(12), due.units);
            due.day = random.nextInt(4);
            for (int day = 0; day < due.day; day++) {
                x.day();
            }
            if (random.nextBoolean()) {
                x.rain();
            }
            ground(x, due);
            for (int i = 0; i < 4; i++) {
                int walker = random.nextInt(due.walkers.size());
                int street = random.nextInt(due.streets.size());
                int set = random.nextInt(3) == 0 ? 0 : random.nextInt(1 << due.rules.size());
                walks(x, due, new int[] {walker, street, set}, random);
            }
        }
        System.out.println(compared + " sets of WAYS compared");
        Due.due("enough compared", compared > 1000, true);
        Due.finish();
    }

    private static void ground(SlabWalk x, Naive due) {
        for (int street = 0; street < due.streets.size(); street++) {
            int length = due.streets.get(street).length;
            Due.due("length", x.length(street), length);
            for (int i = 0; i < length; i++) {
                for (int what = 0; what < 5; what++) {
                    Due.due("inch", x.inch(street, i, what), due.streets.get(street)[i][what]);
                }
                for (int set = 0; set < 1 << due.rules.size(); set += 1 + set / 5) {
                    Due.due("line, " + due.text, x.line(street, set, i), due.isLine(street, set, i) ? 1 : 0);
                }
            }
            for (int set = 0; set < 1 << due.rules.size(); set++) {
                gap(x, due, street, set);
            }
        }
    }

    private static void gap(SlabWalk x, Naive due, int street, int set) {
        int length = due.streets.get(street).length;
        int longest = 0;
        int where = -1;
        int lines = 0;
        for (int from = 0; from < length; from++) {
            int to = from;
            while (to < length && !due.isLine(street, set, to)) {
                to++;
            }
            if (to - from > longest) {
                longest = to - from;
                where = from;
            }
            lines += due.isLine(street, set, from) ? 1 : 0;
        }
        Due.due("gap 0", x.gap(street, set, 0), longest);
        Due.due("gap 1", x.gap(street, set, 1), where);
        Due.due("gap 2", x.gap(street, set, 2), lines);
    }

    private static void walks(SlabWalk x, Naive due, int[] q, Random random) {
        String told = q[0] + " " + q[1] + " " + q[2] + " on: " + due.text;
        int length = due.streets.get(q[1]).length;
        for (int i = 0; i < length; i++) {
            Due.due("foot " + i + " " + told, x.foot(q[0], q[1], q[2], i), due.isLawful(q[0], q[1], q[2], i) ? 1 : 0);
            int by = 1 + random.nextInt(12);
            int feet = 0;
            while (due.isLawful(q[0], q[1], q[2], i + feet * by)) {
                feet++;
            }
            Due.due("even " + i + " " + by + " " + told, x.even(q[0], q[1], q[2], i, by), feet);
            int n = 1 + random.nextInt(i % 8 == 0 ? 3 : 2);
            boolean stands = due.stands(q[0], q[1], i);
            Due.due("brave " + i + " " + n + " " + told, x.brave(q[0], q[1], q[2], i, n),
                stands ? due.brave(q[0], q[1], q[2], i, n) : -1);
            Due.due("boldest " + i + " " + n + " " + told, x.boldest(q[0], q[1], q[2], i, n),
                stands ? due.boldest(q[0], q[1], q[2], i, n) : -1);
        }
        evens(x, due, q, told);
        List<int[]> ways = due.allWays(q[0], q[1], q[2]);
        if (ways != null) {
            compared++;
            fewest(x, q, ways, told);
            counts(x, q, ways, told);
            evenest(x, due, q, ways, told);
            keeps(x, due, q, ways, told);
        }
        Due.due("leave " + told, x.leave(q[0], q[1]), due.leave(q[0], q[1]));
        if (due.rules.size() <= 3) {
            int wins = due.wins(q[0], q[1], q[2]);
            Due.due("wager 0 " + told, x.wager(q[0], q[1], q[2], 0), wins >= 0 ? 1 : 0);
            Due.due("wager 1 " + told, x.wager(q[0], q[1], q[2], 1), wins);
        }
    }

    private static void evens(SlabWalk x, Naive due, int[] q, String told) {
        int[] who = due.walkers.get(q[0]);
        List<Integer> lengths = new ArrayList<>();
        for (int by = who[1]; by <= who[2]; by++) {
            boolean comes = false;
            for (int first = 0; first < who[2]; first++) {
                int heel = first;
                while (due.isLawful(q[0], q[1], q[2], heel)) {
                    comes = comes || !due.stands(q[0], q[1], heel + who[2]);
                    heel += by;
                }
            }
            if (comes) {
                lengths.add(by);
            }
        }
        Due.due("evens " + told, x.evens(q[0], q[1], q[2]), lengths.size());
        Due.lie("evens " + told, x, lengths.stream().mapToInt(by -> by).toArray());
    }

    private static void fewest(SlabWalk x, int[] q, List<int[]> ways, String told) {
        for (int what = 0; what < 3; what++) {
            int[] best = null;
            for (int[] way : ways) {
                boolean asked = what == 0 || (what == 1) == (way.length % 2 == 1);
                if (asked && (best == null || way.length < best.length)) {
                    best = way;
                }
            }
            Due.due("fewest " + what + " " + told, x.fewest(q[0], q[1], q[2], what), best == null ? -1 : best.length);
            Due.lie("fewest " + what + " " + told, x, best == null ? new int[0] : best);
        }
    }

    private static void counts(SlabWalk x, int[] q, List<int[]> ways, String told) {
        int[] counts = new int[400];
        for (int[] way : ways) {
            counts[way.length]++;
        }
        for (int n = 1; n <= 60; n++) {
            Due.due("ways " + n + " " + told, x.ways(q[0], q[1], q[2], n), counts[n]);
        }
    }

    private static void evenest(SlabWalk x, Naive due, int[] q, List<int[]> ways, String told) {
        int least = 1000;
        int shortest = 1000;
        for (int[] way : ways) {
            int low = 1000;
            int high = 0;
            for (int i = 1; i < way.length; i++) {
                low = Math.min(low, way[i] - way[i - 1]);
                high = Math.max(high, way[i] - way[i - 1]);
            }
            boolean better = high - low < least || high - low == least && low < shortest;
            if (way.length > 1 && due.leapsOf(q[0], way) == 0 && better) {
                least = high - low;
                shortest = low;
            }
        }
        Due.due("evenest 0 " + told, x.evenest(q[0], q[1], q[2], 0), least == 1000 ? -1 : least);
        Due.due("evenest 1 " + told, x.evenest(q[0], q[1], q[2], 1), least == 1000 ? -1 : shortest);
    }

    private static void keeps(SlabWalk x, Naive due, int[] q, List<int[]> ways, String told) {
        int fewest = 1000;
        for (int[] way : ways) {
            if (due.keepsHand(way)) {
                fewest = Math.min(fewest, due.leapsOf(q[0], way));
            }
        }
        Due.due("keeps " + told, x.keeps(q[0], q[1], q[2]), fewest == 1000 ? -1 : fewest);
    }
}
