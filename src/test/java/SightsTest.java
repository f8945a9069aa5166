import java.math.BigInteger;
import java.util.Random;

/** Promises 33 to 37: SIGHTS, the TIME, FITS, CHANCE. */
public final class SightsTest {
    private static final int LEAST = Integer.MIN_VALUE;
    private static final int MOST = Integer.MAX_VALUE;

    public static void main(String[] args) {
        time();
        sights();
        twoTimes();
        chances();
        byChance();
        Due.finish();
    }

    private static void time() {
        SlabWalk x = new SlabWalk();
        Due.due("later(0)", x.later(0), 0);
        Due.due("later(-1)", x.later(-1), -1);
        Due.due("later(1001)", x.later(1001), -1);
        Due.due("later(least)", x.later(LEAST), -1);
        Due.due("later(most)", x.later(MOST), -1);
        for (int i = 1; i <= 99; i++) {
            Due.due("later(1000)", x.later(1000), 1000 * i);
        }
        Due.due("later(999)", x.later(999), 99_999);
        Due.due("later(2)", x.later(2), -1);
        Due.due("later(1)", x.later(1), 100_000);
        Due.due("later(1)", x.later(1), -1);
        Due.due("later(0)", x.later(0), 100_000);
        Due.due("TIME", x.about(10), 100_000);
    }

    private static void sights() {
        SlabWalk x = Due.on("street a joint 1 5 5;walker w foot 3 step 1 to 2;rule r joint;");
        int[][] wrong = {{0, 0, -1}, {0, 0, 9}, {0, 0, MOST}, {0, 0, LEAST}, {1, 0, 0}, {-1, 0, 0}, {0, 1, 0}, {0, -1, 0}, {MOST, MOST, 0}};
        for (int[] q : wrong) {
            Due.due("sight " + q[0] + " " + q[1] + " " + q[2], x.sight(q[0], q[1], q[2]), -1);
        }
        Due.due("SIGHTS", x.about(9), 0);
        Due.due("untell of none", x.untell(0), false);
        for (int i = 0; i < 20; i++) {
            Due.due("sight " + i, x.sight(0, 0, i % 9), i);
        }
        Due.due("sight 20", x.sight(0, 0, 0), -1);
        Due.due("SIGHTS", x.about(9), 20);
        Due.due("untell(19)", x.untell(19), true);
        Due.due("untell(19) again", x.untell(19), false);
        Due.due("untell(20)", x.untell(20), false);
        Due.due("untell(-1)", x.untell(-1), false);
        Due.due("untell(most)", x.untell(MOST), false);
        Due.due("UNTOLD ones are SIGHTS still", x.sight(0, 0, 0), -1);
        Due.due("SIGHTS", x.about(9), 20);
    }

    private static void twoTimes() {
        SlabWalk x = Due.on("street a joint 0 9;walker w foot 1 step 1 to 2;rule a inch=0;rule b inch=1;rule c inch=2;rule d inch=day+5;");
        Due.due("none counts", x.fits(0), 15);
        x.later(10);
        x.sight(0, 0, 0);
        x.later(5);
        x.sight(0, 0, 1);
        x.later(5);
        x.untell(0);
        x.later(5);
        x.sight(0, 0, 2);
        x.untell(2);
        x.sight(0, 0, 5);
        int[][] due = {{LEAST, 15}, {-1, 15}, {0, 15}, {9, 15}, {10, 14}, {14, 14}, {15, 12}, {19, 12}, {20, 13}, {24, 13}, {25, 5},
            {26, 5}, {MOST, 5}};
        for (int[] q : due) {
            Due.due("fits(" + q[0] + ")", x.fits(q[0]), q[1]);
        }
        x.day();
        Due.due("fits by another DAY", x.fits(25), 13);
        x.rain();
        Due.due("fits in RAIN", x.fits(25), 13);
        Due.due("chance of a", x.chance(0, 0, 10), 3);
        Due.due("chance of a", x.chance(0, 1, 10), 4);
        Due.due("chance of b at 9", x.chance(1, 0, 9), 1);
        Due.due("chance of b at 9", x.chance(1, 1, 9), 1);
        // Four of five, and seven of seven.
        Due.due("chance of b at most", x.chance(1, 0, MOST), 4);
        Due.due("chance of b at most", x.chance(1, 1, MOST), 5);
        Due.due("no RULES", new SlabWalk().fits(0), 0);
    }

    private static void chances() {
        SlabWalk x = Due.on("street a joint 0 60;walker w foot 1 step 1 to 2;rule a 1;rule b inch=30;rule c 0;street b joint 0 1;");
        for (int rule : new int[] {-1, 3, LEAST, MOST}) {
            Due.due("chance of RULE " + rule, x.chance(rule, 0, 0), -1);
        }
        for (int part : new int[] {-1, 2, LEAST, MOST}) {
            Due.due("chance, part " + part, x.chance(0, part, 0), -1);
        }
        for (int i = 0; i < 20; i++) {
            x.sight(0, 0, 30);
        }
        Due.due("chance of none", x.chance(0, 0, 0), 0);
        Due.due("chance of none", x.chance(0, 1, 0), 1);
        Due.due("6 to the 20", x.chance(1, 0, 0), 3_656_158_440_062_976L);
        Due.due("7 to the 20", x.chance(1, 1, 0), 79_792_266_297_612_001L);
        Due.due("chance of all", x.chance(2, 0, 0), 1);
        Due.due("chance of all", x.chance(2, 1, 0), 1);
        Due.feed(x, "street a joint 0 2;walker w foot 2 step 1 to 2;rule b 0;");
        x.pavement();
        x.sight(0, 0, 0);
        Due.due("one HEEL alone", x.chance(0, 1, 0), 1);
    }

    private static void byChance() {
        for (int seed = 0; seed < 150; seed++) {
            Random random = new Random(seed);
            Naive due = new Naive(random, 30);
            SlabWalk x = Due.on(due.text.toString());
            int[][] told = new int[20][];
            int count = 0;
            int time = 0;
            for (int i = 0; i < 30; i++) {
                int walker = random.nextInt(due.walkers.size());
                int street = random.nextInt(due.streets.size());
                int heel = random.nextInt(30);
                boolean can = count < 20 && due.stands(walker, street, heel);
                Due.due("sight", x.sight(walker, street, heel), can ? count : -1);
                if (can) {
                    told[count++] = new int[] {walker, street, heel, time, MOST};
                }
                if (count > 0 && random.nextInt(4) == 0) {
                    int sight = random.nextInt(count);
                    Due.due("untell", x.untell(sight), told[sight][4] == MOST);
                    told[sight][4] = Math.min(told[sight][4], time);
                }
                int by = random.nextInt(3);
                time += by;
                Due.due("later", x.later(by), time);
            }
            for (int k = -1; k <= time + 1; k++) {
                compare(x, due, told, count, k);
            }
        }
    }

    private static void compare(SlabWalk x, Naive due, int[][] told, int count, int k) {
        int fits = 0;
        for (int rule = 0; rule < due.rules.size(); rule++) {
            BigInteger upper = BigInteger.ONE;
            BigInteger lower = BigInteger.ONE;
            boolean fit = true;
            for (int i = 0; i < count; i++) {
                int[] s = told[i];
                if (s[3] > k || s[4] <= k) {
                    continue;
                }
                fit &= due.isLawful(s[0], s[1], 1 << rule, s[2]);
                int lawful = 0;
                int stand = 0;
                for (int heel = s[2] - 3; heel <= s[2] + 3; heel++) {
                    lawful += due.isLawful(s[0], s[1], 1 << rule, heel) ? 1 : 0;
                    stand += due.stands(s[0], s[1], heel) ? 1 : 0;
                }
                upper = upper.multiply(BigInteger.valueOf(lawful));
                lower = lower.multiply(BigInteger.valueOf(stand));
            }
            BigInteger common = upper.gcd(lower);
            Due.due("chance 0", x.chance(rule, 0, k), upper.divide(common).longValueExact());
            Due.due("chance 1", x.chance(rule, 1, k), lower.divide(common).longValueExact());
            fits |= fit ? 1 << rule : 0;
        }
        Due.due("fits(" + k + ")", x.fits(k), fits);
    }
}
