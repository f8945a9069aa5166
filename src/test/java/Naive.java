import java.math.BigInteger;
import java.util.ArrayList;
import java.util.List;
import java.util.Random;

/** A PAVEMENT made by chance, and the document's answers about it found in the most plodding way. */
final class Naive {
    private static final int MOST_TRIED = 60_000;

    final StringBuilder text = new StringBuilder();
    /** Of each STREET each INCH: joint, nth, inch, long, words. */
    final List<int[][]> streets = new ArrayList<>();
    /** Foot, least, most, leap (0: none). */
    final List<int[]> walkers = new ArrayList<>();
    final List<Formula> rules = new ArrayList<>();
    int[] slip = {0, 1, 0};
    int hand = 30;
    int slack = 10;
    int draw = 0;
    int units = 0;
    int day = 0;

    private final Random random;
    private List<int[]> ways;
    private int tried;

    Naive(Random random, int longest) {
        this.random = random;
        int lines = 3 + random.nextInt(12);
        addStreet(longest);
        addWalker();
        boolean[] told = new boolean[3];
        for (int i = 0; i < lines; i++) {
            int sort = random.nextInt(9);
            if (sort < 2 && streets.size() < 3) {
                addStreet(longest);
            } else if (sort < 4 && walkers.size() < 4) {
                addWalker();
            } else if (sort < 6 && rules.size() < 6 && units < 80) {
                addRule();
            } else if (sort >= 6 && !told[sort - 6]) {
                told[sort - 6] = true;
                addOnce(sort - 6);
            }
        }
    }

    private int within(int least, int most) {
        return least + random.nextInt(most - least + 1);
    }

    private void addStreet(int longest) {
        int joint = random.nextInt(3) == 0 ? 0 : within(0, 3);
        text.append("street s").append((char) ('a' + streets.size())).append(" joint ").append(joint);
        List<int[]> inches = new ArrayList<>();
        for (int nth = 0; nth == 0 || nth < 12 && inches.size() < longest && random.nextInt(8) > 0; nth++) {
            int wide = within(1, Math.max(1, Math.min(60, longest / 3)));
            int words = random.nextInt(3) == 0 ? random.nextInt(16) : 0;
            text.append(' ').append(wide);
            String[] names = {"red", "broken", "drain", "shade"};
            for (int bit = 0; bit < 4; bit++) {
                text.append((words >> bit & 1) == 1 ? " " + names[bit] : "");
            }
            for (int i = 0; nth > 0 && i < joint; i++) {
                inches.add(new int[] {1, nth - 1, i, joint, 0});
            }
            for (int i = 0; i < wide; i++) {
                inches.add(new int[] {0, nth, i, wide, words});
            }
        }
        text.append(";");
        streets.add(inches.toArray(new int[0][]));
    }

    private void addWalker() {
        int foot = within(1, 4);
        int least = within(1, 9);
        int most = within(least, least + 5);
        int leap = random.nextBoolean() ? 0 : within(most + 1, most + 8);
        text.append("walker w").append((char) ('a' + walkers.size())).append(" foot ").append(foot);
        text.append(" step ").append(least).append(" to ").append(most).append(leap == 0 ? "" : " leap " + leap).append(";\n");
        walkers.add(new int[] {foot, least, most, leap});
    }

    private void addRule() {
        Formula formula = new Formula(random, 10);
        text.append("rule r").append((char) ('a' + rules.size())).append(' ').append(formula.text()).append(" ;");
        units += formula.units();
        rules.add(formula);
    }

    private void addOnce(int sort) {
        if (sort == 0) {
            slip = new int[] {within(0, 3), within(0, 9), within(1, 3)};
            text.append("slip ").append(slip[0]).append(' ').append(slip[1]).append(' ').append(slip[2]).append(";");
        } else if (sort == 1) {
            hand = within(1, 12);
            slack = within(0, 12);
            text.append("hand ").append(hand).append(" slack ").append(slack).append(" ;");
        } else {
            draw = within(0, 999);
            text.append("draw ").append(draw).append(";");
        }
    }

    boolean isLine(int street, int set, int x) {
        int[] inch = streets.get(street)[x];
        if (set == 0) {
            return inch[0] == 1 || (inch[4] & 6) != 0;
        }
        for (int rule = 0; rule < rules.size(); rule++) {
            if ((set >> rule & 1) == 1 && rules.get(rule).value.at(inch, day) != 0) {
                return true;
            }
        }
        return false;
    }

    boolean stands(int walker, int street, int heel) {
        return heel >= 0 && heel + walkers.get(walker)[0] <= streets.get(street).length;
    }

    boolean isLawful(int walker, int street, int set, int heel) {
        if (!stands(walker, street, heel)) {
            return false;
        }
        for (int x = heel; x < heel + walkers.get(walker)[0]; x++) {
            if (isLine(street, set, x)) {
                return false;
            }
        }
        return true;
    }

    private boolean isEnd(int walker, int street, int heel) {
        return !stands(walker, street, heel + walkers.get(walker)[2]);
    }

    /** Every WAY, in order HEEL by HEEL, or null if there are too many. */
    List<int[]> allWays(int walker, int street, int set) {
        ways = new ArrayList<>();
        tried = 0;
        for (int heel = 0; heel < walkers.get(walker)[2]; heel++) {
            follow(walker, street, set, new int[] {heel}, false);
        }
        return tried > MOST_TRIED ? null : ways;
    }

    private void follow(int walker, int street, int set, int[] heels, boolean leapt) {
        int heel = heels[heels.length - 1];
        if (tried++ > MOST_TRIED || !isLawful(walker, street, set, heel)) {
            return;
        }
        if (isEnd(walker, street, heel)) {
            ways.add(heels);
            return;
        }
        int[] who = walkers.get(walker);
        for (int by = who[1]; by <= Math.max(who[2], leapt ? 0 : who[3]); by++) {
            int[] more = java.util.Arrays.copyOf(heels, heels.length + 1);
            more[heels.length] = heel + by;
            follow(walker, street, set, more, by > who[2]);
        }
    }

    private boolean hasWay(int walker, int street, int set) {
        return isThereWay(walker, street, set, -1, false, new java.util.HashSet<>());
    }

    private boolean isThereWay(int walker, int street, int set, int heel, boolean leapt, java.util.Set<Integer> dead) {
        if (heel >= 0 && (!isLawful(walker, street, set, heel) || dead.contains(heel * 2 + (leapt ? 1 : 0)))) {
            return false;
        }
        if (heel >= 0 && isEnd(walker, street, heel)) {
            return true;
        }
        int[] who = walkers.get(walker);
        int from = heel < 0 ? 0 : heel + who[1];
        int to = heel < 0 ? who[2] - 1 : heel + Math.max(who[2], leapt ? 0 : who[3]);
        for (int next = from; next <= to; next++) {
            if (isThereWay(walker, street, set, next, heel >= 0 && next - heel > who[2], dead)) {
                return true;
            }
        }
        dead.add(heel * 2 + (leapt ? 1 : 0));
        return false;
    }

    int leave(int walker, int street) {
        int sets = 0;
        for (int set = 0; set < 1 << rules.size(); set++) {
            sets += hasWay(walker, street, set) ? 1 : 0;
        }
        return sets;
    }

    int wins(int walker, int street, int set) {
        for (int rule = 0; rule < rules.size(); rule++) {
            int more = set | 1 << rule;
            if (more != set && hasWay(walker, street, more) && wins(walker, street, more) < 0) {
                return rule;
            }
        }
        return -1;
    }

    int leapsOf(int walker, int[] way) {
        int leaps = 0;
        for (int i = 1; i < way.length; i++) {
            leaps += way[i] - way[i - 1] > walkers.get(walker)[2] ? 1 : 0;
        }
        return leaps;
    }

    boolean keepsHand(int[] way) {
        for (int i = 0; i < way.length; i++) {
            if (Math.abs(way[i] - hand * i) > slack) {
                return false;
            }
        }
        return true;
    }

    long brave(int walker, int street, int set, int heel, int n) {
        if (!stands(walker, street, heel)) {
            return BigInteger.valueOf(slip[0] + slip[1] + slip[2]).pow(n).longValueExact();
        }
        if (!isLawful(walker, street, set, heel)) {
            return 0;
        }
        long best = n == 0 ? 1 : 0;
        for (int by = walkers.get(walker)[1]; n > 0 && by <= walkers.get(walker)[2]; by++) {
            best = Math.max(best, braveBy(walker, street, set, heel + by, n));
        }
        return best;
    }

    private long braveBy(int walker, int street, int set, int aim, int n) {
        long odds = 0;
        for (int slipped = -1; slipped <= 1; slipped++) {
            odds += slip[slipped + 1] == 0 ? 0 : slip[slipped + 1] * brave(walker, street, set, aim + slipped, n - 1);
        }
        return odds;
    }

    int boldest(int walker, int street, int set, int heel, int n) {
        long best = brave(walker, street, set, heel, n);
        int by = walkers.get(walker)[1];
        while (best > 0 && braveBy(walker, street, set, heel + by, n) != best) {
            by++;
        }
        return by;
    }
}
