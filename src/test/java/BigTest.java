import java.math.BigInteger;
import java.util.Random;

/** Promises 11, 12, 13, 19, 20, 23 on streets of up to 400 INCHES, FOOT by FOOT forward, with nothing but sums of all ways. */
public final class BigTest {
    private static final BigInteger MOST = BigInteger.valueOf(1_000_000_000_000_000L);

    public static void main(String[] args) {
        for (int seed = 0; seed < 120; seed++) {
            Random random = new Random(seed);
            int[] who = {1 + random.nextInt(seed % 2 == 0 ? 3 : 12), 0, 0, 0};
            who[1] = 1 + random.nextInt(seed % 3 == 0 ? 60 : 10);
            who[2] = who[1] + random.nextInt(seed % 5 == 0 ? 61 - who[1] : Math.min(12, 61 - who[1]));
            who[3] = seed % 4 == 0 ? who[2] : who[2] + 1 + random.nextInt(99 - who[2]);
            int hand = 1 + random.nextInt(seed % 3 == 0 ? 99 : 20);
            int slack = random.nextInt(100);
            String street = street(random);
            String text = street + "walker w foot " + who[0] + " step " + who[1] + " to " + who[2]
                + (who[3] > who[2] ? " leap " + who[3] : "") + ";hand " + hand + " slack " + slack + ";slip 1 3 2;rule r red;rule s shade;";
            SlabWalk x = Due.on(text);
            int length = x.length(0);
            int leave = 0;
            for (int set = 0; set < 4; set++) {
                boolean[] lawful = new boolean[length];
                for (int heel = 0; heel < length; heel++) {
                    lawful[heel] = x.foot(0, 0, set, heel) == 1;
                }
                leave += compare(x, text, who, set, lawful) ? 1 : 0;
                Due.due("keeps: " + text, x.keeps(0, 0, set), fewestLeaps(who, lawful, hand, slack));
                evenest(x, text, who, set, lawful);
                brave(x, text, who, set, lawful);
            }
            Due.due("leave: " + text, x.leave(0, 0), leave);
        }
        Due.finish();
    }

    private static String street(Random random) {
        int joint = random.nextInt(3) == 0 ? 0 : random.nextInt(10);
        StringBuilder text = new StringBuilder("street a joint ").append(joint);
        int longest = 3 + random.nextInt(58);
        int most = random.nextInt(3) == 0 ? 400 : 100 + random.nextInt(300);
        int length = -joint;
        while (length < most) {
            int wide = Math.min(1 + random.nextInt(longest), most - length - joint);
            if (wide < 1) {
                break;
            }
            length += joint + wide;
            text.append(' ').append(wide);
            int word = random.nextInt(12);
            text.append(word == 0 ? " broken" : word == 1 ? " drain" : word < 4 ? " red" : word < 6 ? " shade" : "");
        }
        return text.append(";").toString();
    }

    private static boolean ends(int[] who, int length, int heel) {
        return heel + who[2] + who[0] > length;
    }

    private static boolean compare(SlabWalk x, String text, int[] who, int set, boolean[] lawful) {
        int length = lawful.length;
        int[] fewest = {-1, -1, -1};
        BigInteger[][] at = new BigInteger[2][length];
        for (int heel = 0; heel < length; heel++) {
            at[0][heel] = heel < who[2] && lawful[heel] ? BigInteger.ONE : BigInteger.ZERO;
            at[1][heel] = BigInteger.ZERO;
        }
        for (int feet = 1; feet <= 401; feet++) {
            BigInteger ended = BigInteger.ZERO;
            BigInteger[][] next = new BigInteger[2][length];
            java.util.Arrays.fill(next[0], BigInteger.ZERO);
            java.util.Arrays.fill(next[1], BigInteger.ZERO);
            boolean goesOn = false;
            for (int state = 0; state < 2 * length; state++) {
                int heel = state / 2;
                int leapt = state % 2;
                BigInteger count = at[leapt][heel].min(MOST);
                if (count.signum() == 0) {
                    continue;
                }
                if (ends(who, length, heel)) {
                    ended = ended.add(count);
                    continue;
                }
                for (int by = who[1]; by <= (leapt == 1 ? who[2] : who[3]); by++) {
                    if (heel + by < length && lawful[heel + by]) {
                        goesOn = true;
                        next[by > who[2] ? 1 : 0][heel + by] = next[by > who[2] ? 1 : 0][heel + by].add(count);
                    }
                }
            }
            if (ended.signum() > 0) {
                fewest[0] = fewest[0] < 0 ? feet : fewest[0];
                fewest[2 - feet % 2] = fewest[2 - feet % 2] < 0 ? feet : fewest[2 - feet % 2];
            }
            if (feet <= 60) {
                Due.due("ways " + feet + " by " + set + ": " + text, x.ways(0, 0, set, feet), ended.min(MOST).longValueExact());
            }
            at = next;
            if (!goesOn && feet > 60) {
                break;
            }
        }
        for (int what = 0; what < 3; what++) {
            Due.due("fewest " + what + " by " + set + ": " + text, x.fewest(0, 0, set, what), fewest[what]);
        }
        return fewest[0] > 0;
    }

    private static int fewestLeaps(int[] who, boolean[] lawful, int hand, int slack) {
        int length = lawful.length;
        int best = 10_000;
        int[][] at = new int[2][length];
        for (int heel = 0; heel < length; heel++) {
            at[0][heel] = heel < who[2] && heel <= slack && lawful[heel] ? 0 : 10_000;
            at[1][heel] = 10_000;
        }
        for (int tick = 0; tick <= 400; tick++) {
            int[][] next = new int[2][length];
            java.util.Arrays.fill(next[0], 10_000);
            java.util.Arrays.fill(next[1], 10_000);
            for (int state = 0; state < 2 * length; state++) {
                int heel = state / 2;
                int leaps = at[state % 2][heel];
                if (leaps < 10_000 && ends(who, length, heel)) {
                    best = Math.min(best, leaps);
                } else if (leaps < 10_000) {
                    for (int by = who[1]; by <= (state % 2 == 1 ? who[2] : who[3]); by++) {
                        int to = heel + by;
                        if (to < length && lawful[to] && Math.abs(to - hand * (tick + 1)) <= slack) {
                            int leap = by > who[2] ? 1 : 0;
                            next[leap][to] = Math.min(next[leap][to], leaps + leap);
                        }
                    }
                }
            }
            at = next;
        }
        return best == 10_000 ? -1 : best;
    }

    private static void evenest(SlabWalk x, String text, int[] who, int set, boolean[] lawful) {
        int least = -1;
        int shortest = -1;
        for (int less = 0; less <= who[2] - who[1] && least < 0; less++) {
            for (int low = who[1]; low + less <= who[2] && least < 0; low++) {
                if (comes(who, lawful, low, low + less)) {
                    least = less;
                    shortest = low;
                }
            }
        }
        Due.due("evenest 0 by " + set + ": " + text, x.evenest(0, 0, set, 0), least);
        Due.due("evenest 1 by " + set + ": " + text, x.evenest(0, 0, set, 1), shortest);
    }

    private static boolean comes(int[] who, boolean[] lawful, int low, int high) {
        boolean[] reached = new boolean[lawful.length];
        for (int heel = 0; heel < lawful.length; heel++) {
            boolean first = heel < who[2] && !ends(who, lawful.length, heel);
            for (int by = low; by <= high && heel - by >= 0; by++) {
                if (reached[heel - by] && !ends(who, lawful.length, heel - by)) {
                    if (lawful[heel] && ends(who, lawful.length, heel)) {
                        return true;
                    }
                    reached[heel] = reached[heel] || lawful[heel];
                }
            }
            reached[heel] = reached[heel] || first && lawful[heel];
        }
        return false;
    }

    private static void brave(SlabWalk x, String text, int[] who, int set, boolean[] lawful) {
        long[] odds = new long[lawful.length + 200];
        java.util.Arrays.fill(odds, 1);
        long all = 1;
        for (int n = 0; n <= 8; n++) {
            long[] next = odds.clone();
            for (int heel = 0; heel < odds.length; heel++) {
                if (heel + who[0] > lawful.length) {
                    next[heel] = all;
                } else if (!lawful[heel]) {
                    next[heel] = 0;
                } else if (n > 0) {
                    next[heel] = 0;
                    for (int by = who[1]; by <= who[2]; by++) {
                        int to = heel + by;
                        next[heel] = Math.max(next[heel], odds[to - 1] + 3 * odds[to] + 2 * odds[to + 1]);
                    }
                }
                if (n > 0 && heel % 13 == n && heel < lawful.length) {
                    boolean stands = heel + who[0] <= lawful.length;
                    Due.due("brave " + n + " from " + heel + " by " + set + ": " + text, x.brave(0, 0, set, heel, n), stands ? next[heel] : -1);
                }
            }
            odds = next;
            all *= 6;
        }
    }
}
