/** Promises 2 to 40: of each number that a call takes the last that can be and the first that can't, on either side. */
public final class SidesTest {
    private static final int LEAST = Integer.MIN_VALUE;
    private static final int MOST = Integer.MAX_VALUE;
    // A WAY by every set; five RULES, so that who is to add the first one wins.
    private static final String WIDE = "street a joint 1 9 9 9 9 red;street b joint 0 20;street c joint 2 12 12 broken 30;"
        + "walker a foot 1 step 1 to 18 leap 20;walker b foot 2 step 2 to 17;walker c foot 12 step 1 to 60 leap 99;walker d foot 5 step 3 to 18;"
        + "rule a 0;rule b red and 0;rule c 0;rule d 0;rule e 0;hand 9 slack 99;slip 1 1 1;";

    private interface Call {
        long of(SlabWalk x, int n);
    }

    public static void main(String[] args) {
        tape();
        ground();
        ways();
        endless();
        brave();
        wager();
        acts();
        sights();
        images();
        nothingThere();
        oneOfEach();
        Due.finish();
    }

    /** From least to most there is an answer other than none; beyond them, far or near, it is none. */
    private static void sides(String text, String call, int least, int most, long none, Call asked) {
        for (int n = least; n <= most; n += n < least + 3 || n > most - 4 ? 1 : Math.max(1, Math.min(50, most - 3 - n))) {
            Due.due(call + " with " + n + " can be", asked.of(Due.on(text), n) != none, true);
        }
        for (int n : new int[] {least - 1, most + 1, least - 64, most + 64, LEAST, LEAST + 1, MOST - 1, MOST}) {
            Due.due(call + " with " + n, asked.of(Due.on(text), n), none);
        }
    }

    private static void tape() {
        for (int size : new int[] {0, 1, 19, 20, 21, 1599, 1600}) {
            sides("", "end of " + size, 0, size, -1, (x, n) -> {
                Due.feed(x, " ".repeat(size));
                return x.end(n);
            });
        }
        sides("", "fault", 0, 1, -1, (x, n) -> {
            Due.feed(x, "draw ?");
            x.pavement();
            return x.fault(n);
        });
    }

    private static void ground() {
        sides(WIDE, "inch, street", 0, 2, -1, (x, n) -> x.inch(n, 5, 1));
        int[] length = {39, 20, 58};
        for (int street = 0; street < 3; street++) {
            int s = street;
            sides(WIDE, "inch, x", 0, length[s] - 1, -1, (x, n) -> x.inch(s, n, 0));
            sides(WIDE, "inch, what", 0, 4, -1, (x, n) -> x.inch(s, 12, n));
            sides(WIDE, "line, x", 0, length[s] - 1, -1, (x, n) -> x.line(s, 0, n));
            sides(WIDE, "line, x, by a RULE", 0, length[s] - 1, -1, (x, n) -> x.line(s, 31, n));
            sides(WIDE, "gap, what", 0, 2, -1, (x, n) -> x.gap(s, 0, n));
            sides(WIDE, "foot, x", 0, length[s] - 1, -1, (x, n) -> x.foot(2, s, 0, n));
        }
        sides(WIDE, "length", 0, 2, -1, (x, n) -> x.length(n));
        sides(WIDE, "line, street", 0, 2, -1, (x, n) -> x.line(n, 0, 0));
        sides(WIDE, "line, rules", 0, 31, -1, (x, n) -> x.line(0, n, 0));
        sides(WIDE, "gap, street", 0, 2, -1, (x, n) -> x.gap(n, 0, 1));
        sides(WIDE, "gap, rules", 0, 31, -1, (x, n) -> x.gap(0, n, 1));
        sides(WIDE, "foot, walker", 0, 3, -1, (x, n) -> x.foot(n, 0, 0, 0));
        sides(WIDE, "foot, street", 0, 2, -1, (x, n) -> x.foot(0, n, 0, 0));
        sides(WIDE, "foot, rules", 0, 31, -1, (x, n) -> x.foot(0, 0, n, 0));
    }

    private static void ways() {
        sides(WIDE, "fewest, walker", 0, 3, -1, (x, n) -> x.fewest(n, 1, 0, 0));
        sides(WIDE, "fewest, street", 0, 2, -1, (x, n) -> x.fewest(0, n, 0, 0));
        sides(WIDE, "fewest, rules", 0, 31, -1, (x, n) -> x.fewest(0, 0, n, 0));
        sides(WIDE, "fewest, what", 0, 2, -1, (x, n) -> x.fewest(0, 0, 0, n));
        sides(WIDE, "ways, walker", 0, 3, -1, (x, n) -> x.ways(n, 0, 0, 3));
        sides(WIDE, "ways, street", 0, 2, -1, (x, n) -> x.ways(0, n, 0, 3));
        sides(WIDE, "ways, rules", 0, 31, -1, (x, n) -> x.ways(0, 0, n, 3));
        sides(WIDE, "ways, n", 1, 60, -1, (x, n) -> x.ways(0, 0, 0, n));
        sides(WIDE, "evenest, street", 0, 2, -1, (x, n) -> x.evenest(0, n, 0, 0));
        sides(WIDE, "evenest, rules", 0, 31, -1, (x, n) -> x.evenest(0, 0, n, 0));
        sides(WIDE, "evenest, what", 0, 1, -1, (x, n) -> x.evenest(0, 0, 0, n));
        sides(WIDE.replace("1 to 60", "1 to 5").replace("3 to 18", "3 to 5"), "evenest, walker", 0, 3, -1, (x, n) -> x.evenest(n, 1, 0, 0));
        sides(WIDE, "even, walker", 0, 3, -1, (x, n) -> x.even(n, 0, 0, 0, 5));
        sides(WIDE, "even, street", 0, 2, -1, (x, n) -> x.even(0, n, 0, 0, 5));
        sides(WIDE, "even, rules", 0, 31, -1, (x, n) -> x.even(0, 0, n, 0, 5));
        sides(WIDE, "even, x", 0, 38, -1, (x, n) -> x.even(2, 0, 0, n, 5));
        sides(WIDE, "even, by", 1, 99, -1, (x, n) -> x.even(0, 0, 0, 0, n));
        sides(WIDE, "evens, walker", 0, 3, -1, (x, n) -> x.evens(n, 0, 0));
        sides(WIDE, "evens, street", 0, 2, -1, (x, n) -> x.evens(0, n, 0));
        sides(WIDE, "evens, rules", 0, 31, -1, (x, n) -> x.evens(0, 0, n));
        sides(WIDE, "keeps, walker", 0, 3, -1, (x, n) -> x.keeps(n, 1, 0));
        sides(WIDE, "keeps, street", 0, 2, -1, (x, n) -> x.keeps(0, n, 0));
        sides(WIDE, "keeps, rules", 0, 31, -1, (x, n) -> x.keeps(0, 0, n));
        sides(WIDE, "lies", 0, 17, -1, (x, n) -> {
            Due.due("eighteen lie", x.evens(0, 1, 0), 18);
            return x.lies(n);
        });
    }

    private static void endless() {
        sides("", "first, slab", 1, 60, -2, (x, n) -> x.first(n, 5, 1, 3, 0));
        sides("", "first, joint", 0, 9, -2, (x, n) -> x.first(5, n, 1, 3, 0));
        sides("", "first, foot", 1, 12, -2, (x, n) -> x.first(5, 5, n, 3, 0));
        sides("", "first, by", 1, 99, -2, (x, n) -> x.first(5, 5, 1, n, 0));
        for (int slab : new int[] {1, 30, 60}) {
            for (int joint : new int[] {0, 1, 9}) {
                sides("", "first, x", 0, slab + joint - 1, -2, (x, n) -> x.first(slab, joint, 1, 3, n));
            }
        }
        sides("", "begin, slab", 1, 60, -1, (x, n) -> x.begin(n, 5, 1, 3));
        sides("", "begin, joint", 0, 9, -1, (x, n) -> x.begin(5, n, 1, 3));
        sides("", "begin, foot", 1, 12, -1, (x, n) -> x.begin(5, 5, n, 3));
        sides("", "begin, by", 1, 99, -1, (x, n) -> x.begin(5, 5, 1, n));
        sides("", "suits, slab", 1, 60, -1, (x, n) -> x.suits(n, 5, 6, 1, 1));
        sides("", "suits, joint", 0, 9, -1, (x, n) -> x.suits(5, n, 6, 1, 1));
        sides("", "suits, other", 1, 60, -1, (x, n) -> x.suits(5, 5, n, 1, 1));
        sides("", "suits, wide", 0, 9, -1, (x, n) -> x.suits(5, 5, 6, n, 1));
        sides("", "suits, foot", 1, 12, -1, (x, n) -> x.suits(5, 5, 6, 1, n));
    }

    private static void brave() {
        sides(WIDE, "brave, walker", 0, 3, -1, (x, n) -> x.brave(n, 0, 0, 0, 3));
        sides(WIDE, "brave, street", 0, 2, -1, (x, n) -> x.brave(0, n, 0, 0, 3));
        sides(WIDE, "brave, rules", 0, 31, -1, (x, n) -> x.brave(0, 0, n, 0, 3));
        sides(WIDE, "brave, x", 0, 38, -1, (x, n) -> x.brave(0, 0, 0, n, 3));
        sides(WIDE, "brave, x of a long FOOT", 0, 27, -1, (x, n) -> x.brave(2, 0, 0, n, 3));
        sides(WIDE, "brave, n", 1, 8, -1, (x, n) -> x.brave(0, 0, 0, 0, n));
        sides(WIDE, "boldest, walker", 0, 3, -1, (x, n) -> x.boldest(n, 0, 0, 0, 3));
        sides(WIDE, "boldest, street", 0, 2, -1, (x, n) -> x.boldest(0, n, 0, 0, 3));
        sides(WIDE, "boldest, rules", 0, 31, -1, (x, n) -> x.boldest(0, 0, n, 0, 3));
        sides(WIDE, "boldest, x", 0, 38, -1, (x, n) -> x.boldest(0, 0, 0, n, 3));
        sides(WIDE, "boldest, x of a long FOOT", 0, 27, -1, (x, n) -> x.boldest(2, 0, 0, n, 3));
        sides(WIDE, "boldest, n", 1, 8, -1, (x, n) -> x.boldest(0, 0, 0, 0, n));
    }

    private static void wager() {
        sides(WIDE, "wager, walker", 0, 3, -1, (x, n) -> x.wager(n, 1, 0, 1));
        sides(WIDE, "wager, street", 0, 2, -1, (x, n) -> x.wager(0, n, 0, 1));
        sides(WIDE, "wager, rules", 0, 31, -1, (x, n) -> x.wager(0, 0, n, 0));
        sides(WIDE, "wager, what", 0, 1, -1, (x, n) -> x.wager(0, 0, 0, n));
        sides(WIDE, "leave, walker", 0, 3, -1, (x, n) -> x.leave(n, 1));
        sides(WIDE, "leave, street", 0, 2, -1, (x, n) -> x.leave(0, n));
    }

    private static void acts() {
        sides(WIDE, "walk, walker", 0, 3, -1, (x, n) -> x.walk(n, 0, 0));
        sides(WIDE, "walk, street", 0, 2, -1, (x, n) -> x.walk(0, n, 0));
        sides(WIDE, "walk, x below his most", 0, 17, -1, (x, n) -> x.walk(0, 0, n));
        sides(WIDE, "walk, x where his FOOT stands", 0, 27, -1, (x, n) -> x.walk(2, 0, n));
        sides(WIDE, "walk, x where both are so", 0, 15, -1, (x, n) -> x.walk(3, 1, n));
        sides(WIDE, "go, a step or a LEAP", 1, 20, -1, (x, n) -> {
            x.walk(0, 0, 0);
            return x.go(n);
        });
        sides(WIDE, "go, who has no leap", 2, 17, -1, (x, n) -> {
            x.walk(1, 0, 0);
            return x.go(n);
        });
        sides(WIDE.replace("slip 1 1 1;", ""), "go, behind a LEAP", 1, 18, -1, (x, n) -> {
            x.walk(0, 0, 1);
            Due.due("a LEAP", x.go(20), 1);
            return x.go(n);
        });
        sides(WIDE, "force", 0, 4, -1, (x, n) -> x.force(n));
        sides(WIDE, "walker", 0, 5, -1, (x, n) -> {
            x.walk(0, 0, 0);
            return x.walker(n);
        });
        sides(WIDE, "about", 0, 14, -1, (x, n) -> x.about(n));
    }

    private static void sights() {
        sides(WIDE, "sight, walker", 0, 3, -1, (x, n) -> x.sight(n, 0, 0));
        sides(WIDE, "sight, street", 0, 2, -1, (x, n) -> x.sight(0, n, 0));
        sides(WIDE, "sight, x", 0, 38, -1, (x, n) -> x.sight(0, 0, n));
        sides(WIDE, "sight, x of a long FOOT", 0, 27, -1, (x, n) -> x.sight(2, 0, n));
        for (int sights : new int[] {1, 2, 20}) {
            sides(WIDE, "untell of " + sights, 0, sights - 1, 0, (x, n) -> {
                for (int i = 0; i < 20 && i < sights; i++) {
                    Due.due("sight", x.sight(0, 0, i), i);
                }
                return x.untell(n) ? 1 : 0;
            });
        }
        sides("", "later", 0, 1000, -1, (x, n) -> x.later(n));
        for (int before : new int[] {99_000, 99_001, 99_500, 99_999, 100_000}) {
            sides("", "later behind " + before, 0, 100_000 - before, -1, (x, n) -> {
                for (int i = 0; i < before / 1000; i++) {
                    x.later(1000);
                }
                x.later(before % 1000);
                return x.later(n);
            });
        }
        sides(WIDE, "chance, rule", 0, 4, -1, (x, n) -> x.chance(n, 0, 0));
        sides(WIDE, "chance, part", 0, 1, -1, (x, n) -> x.chance(0, n, 0));
    }

    private static void images() {
        sides(WIDE, "image", 0, 2, -1, (x, n) -> x.image(n));
        sides(WIDE, "back", 0, 2, -1, (x, n) -> {
            x.image(0);
            x.image(1);
            x.image(2);
            return x.back(n);
        });
        for (int box = 0; box < 3; box++) {
            int full = box;
            sides(WIDE, "back from the one that is full", full, full, -1, (x, n) -> {
                x.image(full);
                return x.back(n);
            });
        }
    }

    /** On an empty PAVEMENT there is no STREET, no WALKER, no RULE. */
    private static void nothingThere() {
        for (int n : new int[] {LEAST, -1, 0, 1, MOST}) {
            SlabWalk x = new SlabWalk();
            Due.due("inch", x.inch(n, 0, 0), -1);
            Due.due("length", x.length(n), -1);
            Due.due("line", x.line(n, 0, 0), -1);
            Due.due("gap", x.gap(n, 0, 0), -1);
            Due.due("foot", x.foot(n, n, 0, 0), -1);
            Due.due("fewest", x.fewest(n, n, 0, 0), -1);
            Due.due("ways", x.ways(n, n, 0, 1), -1);
            Due.due("evenest", x.evenest(n, n, 0, 0), -1);
            Due.due("even", x.even(n, n, 0, 0, 1), -1);
            Due.due("evens", x.evens(n, n, 0), -1);
            Due.due("keeps", x.keeps(n, n, 0), -1);
            Due.due("brave", x.brave(n, n, 0, 0, 1), -1);
            Due.due("boldest", x.boldest(n, n, 0, 0, 1), -1);
            Due.due("wager", x.wager(n, n, 0, 0), -1);
            Due.due("leave", x.leave(n, n), -1);
            Due.due("walk", x.walk(n, n, 0), -1);
            Due.due("go", x.go(n), -1);
            Due.due("force", x.force(n), -1);
            Due.due("walker", x.walker(n), -1);
            Due.due("lies", x.lies(n), -1);
            Due.due("sight", x.sight(n, n, 0), -1);
            Due.due("untell", x.untell(n), false);
            Due.due("fits", x.fits(n), 0);
            Due.due("chance", x.chance(n, 0, 0), -1);
            Due.due("back", x.back(n), -1);
            Due.due("undo", x.undo(), false);
            Due.due("redo", x.redo(), false);
            Due.due("ACTS", x.about(7), 0);
        }
        String[] onlyOne = {"street a joint 0 5;", "walker w foot 1 step 1 to 2;"};
        for (String text : onlyOne) {
            SlabWalk x = Due.on(text);
            Due.due("foot on: " + text, x.foot(0, 0, 0, 0), -1);
            Due.due("fewest on: " + text, x.fewest(0, 0, 0, 0), -1);
            Due.due("walk on: " + text, x.walk(0, 0, 0), -1);
            Due.due("sight on: " + text, x.sight(0, 0, 0), -1);
            Due.due("leave on: " + text, x.leave(0, 0), -1);
        }
    }

    private static void oneOfEach() {
        String text = "street a joint 0 1;walker w foot 1 step 1 to 1;rule r 0;";
        sides(text, "length", 0, 0, -1, (x, n) -> x.length(n));
        sides(text, "inch, x", 0, 0, -1, (x, n) -> x.inch(0, n, 3));
        sides(text, "line, rules", 0, 1, -1, (x, n) -> x.line(0, n, 0));
        sides(text, "gap, rules", 0, 1, -1, (x, n) -> x.gap(0, n, 1));
        sides(text, "foot, x", 0, 0, -1, (x, n) -> x.foot(0, 0, 0, n));
        sides(text, "fewest, walker", 0, 0, -1, (x, n) -> x.fewest(n, 0, 0, 0));
        sides(text, "ways, rules", 0, 1, -1, (x, n) -> x.ways(0, 0, n, 1));
        sides(text, "brave, x", 0, 0, -1, (x, n) -> x.brave(0, 0, 0, n, 8));
        sides(text, "walk, x", 0, 0, -1, (x, n) -> x.walk(0, 0, n));
        sides(text, "force", 0, 0, -1, (x, n) -> x.force(n));
        sides(text, "chance, rule", 0, 0, -1, (x, n) -> x.chance(n, 1, 0));
        // No RULE is told: there is the empty set alone.
        text = "street a joint 0 1;walker w foot 1 step 1 to 1;";
        sides(text, "line, rules", 0, 0, -1, (x, n) -> x.line(0, n, 0));
        sides(text, "fewest, rules", 0, 0, -1, (x, n) -> x.fewest(0, 0, n, 0));
        sides(text, "leave, walker", 0, 0, -1, (x, n) -> x.leave(n, 0));
        // All six are told.
        text = text + "rule a 0;rule b 0;rule c 0;rule d 0;rule e 0;rule f 0;";
        sides(text, "line, rules", 0, 63, -1, (x, n) -> x.line(0, n, 0));
        sides(text, "fewest, rules", 0, 63, -1, (x, n) -> x.fewest(0, 0, n, 0));
        sides(text, "wager, rules", 0, 63, -1, (x, n) -> x.wager(0, 0, n, 0));
        sides(text, "force", 0, 5, -1, (x, n) -> x.force(n));
    }
}
