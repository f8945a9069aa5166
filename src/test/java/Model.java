import java.math.BigInteger;
import java.util.ArrayList;
import java.util.HashMap;
import java.util.List;
import java.util.Map;
import java.util.Set;
import java.util.TreeSet;

/** The document's face a second time, as its words stand there, with no thought for speed or room. */
final class Model {
    private static final int UP = 1;
    private static final int EATEN = 0;
    private static final int THROUGH = 2;

    private record Walking(int walker, int street, int heel, int feet, int how, boolean leapt) {
    }

    private record Earnest(Walking who, int day, int seed, Set<Integer> force, boolean rain) {
    }

    private static final class Sight {
        int walker;
        int street;
        int heel;
        int told;
        int untold = Integer.MAX_VALUE;
        boolean isUntold = false;
    }

    private final StringBuilder tape = new StringBuilder();
    private Told told = new Told("");
    private Told latest = told;
    private Earnest now = new Earnest(null, 0, 0, Set.of(), false);
    private final List<Earnest> before = new ArrayList<>();
    private final List<Earnest> behind = new ArrayList<>();
    private final Earnest[] boxes = new Earnest[3];
    private final List<Sight> sights = new ArrayList<>();
    private List<Integer> lying = new ArrayList<>();
    private int time = 0;
    private final Map<List<Integer>, boolean[]> known = new HashMap<>();
    private final Map<List<Integer>, Boolean> leaving = new HashMap<>();

    // What may be asked by the test that makes the calls.

    Told told() {
        return told;
    }

    // Promises 2 to 5.

    int feed(int a, int b, int c, int d, int e) {
        if (tape.length() + 20 > 1600) {
            return -1;
        }
        for (int number : new int[] {a, b, c, d, e}) {
            tape.append((char) (number >>> 24)).append((char) (number >>> 16 & 255));
            tape.append((char) (number >>> 8 & 255)).append((char) (number & 255));
        }
        return tape.length();
    }

    int end(int n) {
        if (n < 0 || n > tape.length()) {
            return -1;
        }
        tape.setLength(n);
        return n;
    }

    int pavement() {
        latest = new Told(tape.toString());
        tape.setLength(0);
        if (latest.fault != 0) {
            return -1;
        }
        told = latest;
        now = new Earnest(null, 0, told.draw, Set.of(), false);
        before.clear();
        behind.clear();
        sights.clear();
        lying.clear();
        known.clear();
        leaving.clear();
        for (int box = 0; box < 3; box++) {
            boxes[box] = null;
        }
        return told.streets.size();
    }

    int fault(int what) {
        return what == 0 ? latest.fault : what == 1 ? latest.place : -1;
    }

    // Promises 6 to 10.

    private boolean isStreet(int street) {
        return street >= 0 && street < told.streets.size();
    }

    private boolean isInch(int street, int x) {
        return isStreet(street) && x >= 0 && x < told.streets.get(street).size();
    }

    private boolean isSet(int rules) {
        return rules >= 0 && rules < Math.pow(2, told.rules.size());
    }

    private boolean isWalker(int walker) {
        return walker >= 0 && walker < told.walkers.size();
    }

    private boolean can(int walker, int street, int rules) {
        return isWalker(walker) && isStreet(street) && isSet(rules);
    }

    int inch(int street, int x, int what) {
        if (!isInch(street, x)) {
            return -1;
        }
        Told.Inch inch = told.streets.get(street).get(x);
        int words = 0;
        words += inch.words().contains("red") ? 1 : 0;
        words += inch.words().contains("broken") ? 2 : 0;
        words += inch.words().contains("drain") ? 4 : 0;
        words += inch.words().contains("shade") ? 8 : 0;
        switch (what) {
            case 0: return inch.joint() ? 1 : 0;
            case 1: return inch.nth();
            case 2: return inch.inch();
            case 3: return inch.wide();
            case 4: return words;
            default: return -1;
        }
    }

    int length(int street) {
        return isStreet(street) ? told.streets.get(street).size() : -1;
    }

    private boolean isLine(int street, int rules, int x) {
        boolean[] lines = known.computeIfAbsent(List.of(street, rules, now.day()), key -> {
            boolean[] found = new boolean[length(street)];
            for (int i = 0; i < found.length; i++) {
                found[i] = isLineBy(told.streets.get(street).get(i), rules);
            }
            return found;
        });
        return lines[x];
    }

    private boolean isLineBy(Told.Inch inch, int rules) {
        if (rules == 0) {
            return inch.joint() || inch.words().contains("broken") || inch.words().contains("drain");
        }
        boolean line = false;
        for (int rule = 0; rule < told.rules.size(); rule++) {
            line |= (rules & 1 << rule) != 0 && told.rules.get(rule).at(inch, now.day()) != 0;
        }
        return line;
    }

    int line(int street, int rules, int x) {
        return !isInch(street, x) || !isSet(rules) ? -1 : isLine(street, rules, x) ? 1 : 0;
    }

    int gap(int street, int rules, int what) {
        if (!isStreet(street) || !isSet(rules)) {
            return -1;
        }
        int longest = 0;
        int where = -1;
        int lines = 0;
        for (int x = 0; x < length(street); x++) {
            int free = x;
            while (free < length(street) && !isLine(street, rules, free)) {
                free++;
            }
            where = free - x > longest ? x : where;
            longest = Math.max(longest, free - x);
            lines += isLine(street, rules, x) ? 1 : 0;
        }
        return what == 0 ? longest : what == 1 ? where : what == 2 ? lines : -1;
    }

    private boolean stands(int walker, int street, int heel) {
        return isWalker(walker) && isInch(street, heel) && isInch(street, heel + told.walkers.get(walker).foot() - 1);
    }

    private boolean isLawful(int walker, int street, int rules, int heel) {
        boolean lawful = stands(walker, street, heel);
        for (int i = 0; lawful && i < told.walkers.get(walker).foot(); i++) {
            lawful = !isLine(street, rules, heel + i);
        }
        return lawful;
    }

    int foot(int walker, int street, int rules, int x) {
        return !can(walker, street, rules) || !isInch(street, x) ? -1 : isLawful(walker, street, rules, x) ? 1 : 0;
    }

    // Promises 11 to 15, 19: WAYS.

    /** A WALKER on a STREET by a set of RULES. */
    private final class Course {
        final Told.Walker who;
        final boolean[] lawful;
        private final Map<List<Integer>, List<Integer>> best = new HashMap<>();
        private final Map<List<Integer>, BigInteger> counts = new HashMap<>();

        Course(int walker, int street, int rules) {
            who = told.walkers.get(walker);
            lawful = new boolean[length(street)];
            for (int heel = 0; heel < lawful.length; heel++) {
                lawful[heel] = isLawful(walker, street, rules, heel);
            }
        }

        boolean isGood(int heel) {
            return heel < lawful.length && lawful[heel];
        }

        boolean isEnd(int heel) {
            return heel + who.most() + who.foot() > lawful.length;
        }

        int farthest(boolean leapt) {
            return leapt ? who.most() : who.leap();
        }

        /** The best HEELS from this one on, as many as is asked modulo 2; null: none. */
        List<Integer> bestFrom(int heel, boolean leapt, int odd) {
            if (!isGood(heel) || isEnd(heel)) {
                return isGood(heel) && odd == 1 ? List.of(heel) : null;
            }
            List<Integer> key = List.of(heel, leapt ? 1 : 0, odd);
            if (!best.containsKey(key)) {
                List<Integer> found = null;
                for (int by = who.least(); by <= farthest(leapt); by++) {
                    found = better(found, bestFrom(heel + by, by > who.most(), 1 - odd));
                }
                if (found != null) {
                    found = new ArrayList<>(found);
                    found.add(0, heel);
                }
                best.put(key, found);
            }
            return best.get(key);
        }

        List<Integer> bestOf(int odd) {
            List<Integer> found = null;
            for (int heel = 0; heel < who.most(); heel++) {
                found = better(found, bestFrom(heel, false, odd));
            }
            return found;
        }

        BigInteger countFrom(int heel, boolean leapt, int feet) {
            if (!isGood(heel) || feet == 1 || isEnd(heel)) {
                return isGood(heel) && feet == 1 && isEnd(heel) ? BigInteger.ONE : BigInteger.ZERO;
            }
            List<Integer> key = List.of(heel, leapt ? 1 : 0, feet);
            BigInteger count = counts.get(key);
            if (count == null) {
                count = BigInteger.ZERO;
                for (int by = who.least(); by <= farthest(leapt); by++) {
                    count = count.add(countFrom(heel + by, by > who.most(), feet - 1));
                }
                counts.put(key, count);
            }
            return count;
        }

        /** Is there a WAY of two FEET at least with steps from shortest to longest? */
        boolean hasWay(int shortest, int longest) {
            boolean[] come = new boolean[lawful.length];
            for (int heel = 0; heel < lawful.length; heel++) {
                boolean first = heel < who.most() && isGood(heel);
                if (come[heel] && isEnd(heel)) {
                    return true;
                }
                for (int by = shortest; (come[heel] || first) && !isEnd(heel) && by <= longest; by++) {
                    come[heel + by] = isGood(heel + by);
                }
            }
            return false;
        }
    }

    /** The one of fewer HEELS; of like ones the first, HEEL by HEEL. */
    private static List<Integer> better(List<Integer> one, List<Integer> other) {
        if (one == null || other == null) {
            return one == null ? other : one;
        }
        if (one.size() != other.size()) {
            return one.size() < other.size() ? one : other;
        }
        for (int i = 0; i < one.size(); i++) {
            if (!one.get(i).equals(other.get(i))) {
                return one.get(i) < other.get(i) ? one : other;
            }
        }
        return one;
    }

    int fewest(int walker, int street, int rules, int what) {
        lying = new ArrayList<>();
        if (!can(walker, street, rules) || what < 0 || what > 2) {
            return -1;
        }
        Course course = new Course(walker, street, rules);
        List<Integer> left = course.bestOf(1);
        List<Integer> right = course.bestOf(0);
        List<Integer> way = what == 0 ? better(left, right) : what == 1 ? left : right;
        if (way == null) {
            return -1;
        }
        lying.addAll(way);
        return way.size();
    }

    long ways(int walker, int street, int rules, int n) {
        if (!can(walker, street, rules) || n < 1 || n > 60) {
            return -1;
        }
        Course course = new Course(walker, street, rules);
        BigInteger count = BigInteger.ZERO;
        for (int heel = 0; heel < course.who.most(); heel++) {
            count = count.add(course.countFrom(heel, false, n));
        }
        return count.min(BigInteger.valueOf(1_000_000_000_000_000L)).longValueExact();
    }

    int evenest(int walker, int street, int rules, int what) {
        if (!can(walker, street, rules) || what < 0 || what > 1) {
            return -1;
        }
        Course course = new Course(walker, street, rules);
        for (int less = 0; less <= course.who.most() - course.who.least(); less++) {
            for (int shortest = course.who.least(); shortest + less <= course.who.most(); shortest++) {
                if (course.hasWay(shortest, shortest + less)) {
                    return what == 0 ? less : shortest;
                }
            }
        }
        return -1;
    }

    int even(int walker, int street, int rules, int x, int by) {
        if (!can(walker, street, rules) || !isInch(street, x) || by < 1 || by > 99) {
            return -1;
        }
        int feet = 0;
        while (isLawful(walker, street, rules, x + feet * by)) {
            feet++;
        }
        return feet;
    }

    int evens(int walker, int street, int rules) {
        lying = new ArrayList<>();
        if (!can(walker, street, rules)) {
            return -1;
        }
        Course course = new Course(walker, street, rules);
        TreeSet<Integer> lengths = new TreeSet<>();
        for (int by = course.who.least(); by <= course.who.most(); by++) {
            for (int first = 0; first < course.who.most(); first++) {
                int heel = first;
                while (course.isGood(heel) && !course.isEnd(heel)) {
                    heel += by;
                }
                if (course.isGood(heel)) {
                    lengths.add(by);
                }
            }
        }
        lying.addAll(lengths);
        return lying.size();
    }

    int keeps(int walker, int street, int rules) {
        if (!can(walker, street, rules)) {
            return -1;
        }
        Course course = new Course(walker, street, rules);
        // By HEEL and whether a LEAP came to it: the LEAPS so far.
        Map<List<Integer>, Integer> here = new HashMap<>();
        for (int heel = 0; heel < course.who.most() && heel <= told.slack; heel++) {
            if (course.isGood(heel)) {
                here.put(List.of(heel, 0), 0);
            }
        }
        int fewest = Integer.MAX_VALUE;
        for (int tick = 1; !here.isEmpty(); tick++) {
            Map<List<Integer>, Integer> next = new HashMap<>();
            for (Map.Entry<List<Integer>, Integer> one : here.entrySet()) {
                int heel = one.getKey().get(0);
                if (course.isEnd(heel)) {
                    fewest = Math.min(fewest, one.getValue());
                    continue;
                }
                for (int by = course.who.least(); by <= course.farthest(one.getKey().get(1) == 1); by++) {
                    if (course.isGood(heel + by) && Math.abs(heel + by - told.hand * tick) <= told.slack) {
                        int leap = by > course.who.most() ? 1 : 0;
                        next.merge(List.of(heel + by, leap), one.getValue() + leap, Math::min);
                    }
                }
            }
            here = next;
        }
        return fewest == Integer.MAX_VALUE ? -1 : fewest;
    }

    // Promises 16 to 18: ENDLESS SLABS.

    private static boolean isEndless(int slab, int joint, int foot) {
        return slab >= 1 && slab <= 60 && joint >= 0 && joint <= 9 && foot >= 1 && foot <= 12;
    }

    /** FEET ahead of the first that is not LAWFUL; -1: never. */
    private static int ahead(int slab, int joint, int foot, int by, int x) {
        for (int feet = 0; feet < 200; feet++) {
            for (int inch = x + feet * by; inch < x + feet * by + foot; inch++) {
                if (inch % (slab + joint) >= slab) {
                    return feet;
                }
            }
        }
        return -1;
    }

    int first(int slab, int joint, int foot, int by, int x) {
        boolean can = isEndless(slab, joint, foot) && by >= 1 && by <= 99 && x >= 0 && x < slab + joint;
        return can ? ahead(slab, joint, foot, by, x) : -2;
    }

    private static int inchesThatNeverEnd(int slab, int joint, int foot, int by) {
        int count = 0;
        for (int x = 0; x < slab + joint; x++) {
            count += ahead(slab, joint, foot, by, x) == -1 ? 1 : 0;
        }
        return count;
    }

    int begin(int slab, int joint, int foot, int by) {
        return isEndless(slab, joint, foot) && by >= 1 && by <= 99 ? inchesThatNeverEnd(slab, joint, foot, by) : -1;
    }

    long suits(int slab, int joint, int other, int wide, int foot) {
        if (!isEndless(slab, joint, foot) || !isEndless(other, wide, foot)) {
            return -1;
        }
        BigInteger bits = BigInteger.ZERO;
        for (int by = 1; by <= 60; by++) {
            if (inchesThatNeverEnd(slab, joint, foot, by) > 0 && inchesThatNeverEnd(other, wide, foot, by) > 0) {
                bits = bits.setBit(by - 1);
            }
        }
        return bits.longValueExact();
    }

    // Promises 20 to 23.

    private int slips() {
        return told.slip[0] + told.slip[1] + told.slip[2];
    }

    private BigInteger odds(Course course, int heel, int n, Map<List<Integer>, BigInteger> odds) {
        if (heel + course.who.foot() > course.lawful.length) {
            return BigInteger.valueOf(slips()).pow(n);
        }
        if (!course.isGood(heel) || n == 0) {
            return course.isGood(heel) ? BigInteger.ONE : BigInteger.ZERO;
        }
        List<Integer> key = List.of(heel, n);
        BigInteger most = odds.get(key);
        if (most == null) {
            most = BigInteger.ZERO;
            for (int by = course.who.least(); by <= course.who.most(); by++) {
                most = most.max(oddsBy(course, heel + by, n, odds));
            }
            odds.put(key, most);
        }
        return most;
    }

    private BigInteger oddsBy(Course course, int aim, int n, Map<List<Integer>, BigInteger> odds) {
        BigInteger sum = BigInteger.ZERO;
        for (int i = 0; i < 3; i++) {
            sum = sum.add(odds(course, aim + i - 1, n - 1, odds).multiply(BigInteger.valueOf(told.slip[i])));
        }
        return sum;
    }

    private boolean canBeBrave(int walker, int street, int rules, int x, int n) {
        return can(walker, street, rules) && stands(walker, street, x) && n >= 1 && n <= 8;
    }

    long brave(int walker, int street, int rules, int x, int n) {
        return canBeBrave(walker, street, rules, x, n)
            ? odds(new Course(walker, street, rules), x, n, new HashMap<>()).longValueExact() : -1;
    }

    int boldest(int walker, int street, int rules, int x, int n) {
        if (!canBeBrave(walker, street, rules, x, n)) {
            return -1;
        }
        Course course = new Course(walker, street, rules);
        Map<List<Integer>, BigInteger> odds = new HashMap<>();
        BigInteger most = odds(course, x, n, odds);
        for (int by = course.who.least(); by <= course.who.most(); by++) {
            if (!course.isGood(x) || oddsBy(course, x + by, n, odds).equals(most)) {
                return by;
            }
        }
        return -1;
    }

    private boolean isThereWay(int walker, int street, int rules) {
        List<Integer> key = List.of(walker, street, rules, now.day());
        Boolean leaves = leaving.get(key);
        if (leaves == null) {
            Course course = new Course(walker, street, rules);
            leaves = course.bestOf(0) != null || course.bestOf(1) != null;
            leaving.put(key, leaves);
        }
        return leaves;
    }

    private int winsBy(int walker, int street, Set<Integer> set) {
        for (int rule = 0; rule < told.rules.size(); rule++) {
            Set<Integer> more = new TreeSet<>(set);
            int bits = 0;
            if (more.add(rule)) {
                for (int one : more) {
                    bits += 1 << one;
                }
                if (isThereWay(walker, street, bits) && winsBy(walker, street, more) == -1) {
                    return rule;
                }
            }
        }
        return -1;
    }

    int wager(int walker, int street, int rules, int what) {
        if (!can(walker, street, rules) || what < 0 || what > 1) {
            return -1;
        }
        Set<Integer> set = new TreeSet<>();
        for (int rule = 0; rule < told.rules.size(); rule++) {
            if ((rules & 1 << rule) != 0) {
                set.add(rule);
            }
        }
        int wins = winsBy(walker, street, set);
        return what == 1 ? wins : wins == -1 ? 0 : 1;
    }

    int leave(int walker, int street) {
        if (!isWalker(walker) || !isStreet(street)) {
            return -1;
        }
        int count = 0;
        for (int rules = 0; isSet(rules); rules++) {
            count += isThereWay(walker, street, rules) ? 1 : 0;
        }
        return count;
    }

    // Promises 24 to 32.

    private void act(Earnest then) {
        before.add(now);
        if (before.size() > 40) {
            before.remove(0);
        }
        behind.clear();
        now = then;
    }

    private boolean isLawfulNow(int walker, int street, int heel) {
        int bits = 0;
        for (int rule : now.force()) {
            bits |= 1 << rule;
        }
        return now.rain() || isLawful(walker, street, bits, heel);
    }

    int walk(int walker, int street, int x) {
        if (!stands(walker, street, x) || x >= told.walkers.get(walker).most()) {
            return -1;
        }
        int how = isLawfulNow(walker, street, x) ? UP : EATEN;
        act(new Earnest(new Walking(walker, street, x, 1, how, false), now.day(), now.seed(), now.force(), now.rain()));
        return how;
    }

    int go(int by) {
        Walking who = now.who();
        if (who == null || who.how() != UP) {
            return -1;
        }
        Told.Walker walker = told.walkers.get(who.walker());
        boolean step = by >= walker.least() && by <= walker.most();
        boolean leap = by > walker.most() && by <= walker.leap() && !who.leapt();
        if (!step && !leap) {
            return -1;
        }
        int seed = (now.seed() * 137 + 71) % 1000;
        int rest = seed % slips();
        int slipped = rest < told.slip[0] ? by - 1 : rest < told.slip[0] + told.slip[1] ? by : by + 1;
        int heel = who.heel() + slipped;
        boolean stands = stands(who.walker(), who.street(), heel);
        int how = !stands ? THROUGH : isLawfulNow(who.walker(), who.street(), heel) ? UP : EATEN;
        Walking then = new Walking(who.walker(), who.street(), stands ? heel : who.heel(), who.feet() + (stands ? 1 : 0), how, leap);
        act(new Earnest(then, now.day(), seed, now.force(), now.rain()));
        return how;
    }

    int force(int rule) {
        if (rule < 0 || rule >= told.rules.size()) {
            return -1;
        }
        Set<Integer> force = new TreeSet<>(now.force());
        boolean added = force.add(rule) || !force.remove(rule);
        act(new Earnest(now.who(), now.day(), now.seed(), force, now.rain()));
        return added ? 1 : 0;
    }

    boolean rain() {
        act(new Earnest(now.who(), now.day(), now.seed(), now.force(), !now.rain()));
        return now.rain();
    }

    int day() {
        if (now.day() + 1 > 1000) {
            return -1;
        }
        act(new Earnest(now.who(), now.day() + 1, now.seed(), now.force(), now.rain()));
        return now.day();
    }

    boolean undo() {
        if (before.isEmpty()) {
            return false;
        }
        behind.add(now);
        now = before.remove(before.size() - 1);
        return true;
    }

    boolean redo() {
        if (behind.isEmpty()) {
            return false;
        }
        before.add(now);
        now = behind.remove(behind.size() - 1);
        return true;
    }

    int walker(int what) {
        Walking who = now.who();
        if (who == null) {
            return -1;
        }
        switch (what) {
            case 0: return who.walker();
            case 1: return who.street();
            case 2: return who.heel();
            case 3: return who.feet();
            case 4: return who.how();
            case 5: return who.leapt() ? 1 : 0;
            default: return -1;
        }
    }

    int lies(int i) {
        return i >= 0 && i < lying.size() ? lying.get(i) : -1;
    }

    // Promises 33 to 37.

    int sight(int walker, int street, int x) {
        if (!stands(walker, street, x) || sights.size() == 20) {
            return -1;
        }
        Sight sight = new Sight();
        sight.walker = walker;
        sight.street = street;
        sight.heel = x;
        sight.told = time;
        sights.add(sight);
        return sights.size() - 1;
    }

    boolean untell(int sight) {
        if (sight < 0 || sight >= sights.size() || sights.get(sight).isUntold) {
            return false;
        }
        sights.get(sight).isUntold = true;
        sights.get(sight).untold = time;
        return true;
    }

    int later(int by) {
        if (by < 0 || by > 1000 || time + by > 100_000) {
            return -1;
        }
        time += by;
        return time;
    }

    private List<Sight> knownAt(int k) {
        List<Sight> count = new ArrayList<>(sights);
        count.removeIf(sight -> sight.told > k || sight.isUntold && sight.untold <= k);
        return count;
    }

    int fits(int k) {
        int bits = 0;
        for (int rule = 0; rule < told.rules.size(); rule++) {
            int alone = 1 << rule;
            if (knownAt(k).stream().allMatch(sight -> isLawful(sight.walker, sight.street, alone, sight.heel))) {
                bits |= alone;
            }
        }
        return bits;
    }

    long chance(int rule, int part, int k) {
        if (rule < 0 || rule >= told.rules.size() || part < 0 || part > 1) {
            return -1;
        }
        BigInteger upper = BigInteger.ONE;
        BigInteger lower = BigInteger.ONE;
        for (Sight sight : knownAt(k)) {
            int stand = 0;
            int lawful = 0;
            for (int heel = sight.heel - 3; heel <= sight.heel + 3; heel++) {
                stand += stands(sight.walker, sight.street, heel) ? 1 : 0;
                lawful += isLawful(sight.walker, sight.street, 1 << rule, heel) ? 1 : 0;
            }
            upper = upper.multiply(BigInteger.valueOf(lawful));
            lower = lower.multiply(BigInteger.valueOf(stand));
        }
        return (part == 0 ? upper : lower).divide(upper.gcd(lower)).longValueExact();
    }

    // Promises 38 to 40.

    int image(int box) {
        if (box < 0 || box > 2) {
            return -1;
        }
        boxes[box] = now;
        return now.day();
    }

    int back(int box) {
        if (box < 0 || box > 2 || boxes[box] == null) {
            return -1;
        }
        now = boxes[box];
        before.clear();
        behind.clear();
        return now.day();
    }

    int about(int what) {
        int force = 0;
        for (int rule : now.force()) {
            force |= 1 << rule;
        }
        int[] answers = {told.streets.size(), told.walkers.size(), told.rules.size(), now.day(), now.seed(), force, now.rain() ? 1 : 0,
            before.size(), behind.size(), sights.size(), time, tape.length(), told.units, lying.size(), slips()};
        return what >= 0 && what < answers.length ? answers[what] : -1;
    }
}
