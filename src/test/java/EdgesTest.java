/** Parts 2 to 4 and promises 4 to 40: a test for each sentence that names an edge which is not a number's alone. */
public final class EdgesTest {
    private static final String BARE = "street a joint 0 60 60 60 60 60 60 40;";

    public static void main(String[] args) {
        anew();
        inches();
        formulas();
        sets();
        gaps();
        feet();
        firstHeels();
        ends();
        leaps();
        whatLies();
        mostWays();
        evenest();
        even();
        evens();
        endless();
        hand();
        brave();
        wager();
        Due.finish();
    }

    /** Promise 4, behind an empty TAPE, too: all is as in a new object, but for the TIME. */
    private static void anew() {
        for (String text : new String[] {"", " \n", "draw 0;"}) {
            SlabWalk x = Due.on("street a joint 1 5 5;walker w foot 1 step 1 to 9;rule r red;draw 7;slip 1 2 3;");
            x.walk(0, 0, 1);
            x.day();
            x.force(0);
            x.rain();
            x.undo();
            x.sight(0, 0, 2);
            x.fewest(0, 0, 0, 0);
            for (int box = 0; box < 3; box++) {
                x.image(box);
            }
            Due.due("later", x.later(1000), 1000);
            Due.feed(x, text);
            Due.due("pavement()", x.pavement(), 0);
            for (int what = 0; what < 15; what++) {
                Due.due("anew: about(" + what + ")", x.about(what), what == 10 ? 1000 : what == 14 ? 1 : 0);
            }
            Due.due("nobody walks", x.walker(0), -1);
            Due.due("no ACTS", x.undo() || x.redo(), false);
            Due.due("BOXES are empty", x.back(0) + x.back(1) + x.back(2), -3);
            Due.due("nothing lies", x.lies(0), -1);
            Due.due("SIGHTS are none", x.untell(0), false);
            Due.due("no STREET", x.length(0), -1);
            Due.due("the TIME goes on", x.later(1), 1001);
        }
        // The same text again starts anew, too.
        String text = "street a joint 1 5 5;walker w foot 1 step 1 to 9;rule r inch=day;draw 7;";
        SlabWalk x = Due.on(text);
        x.walk(0, 0, 1);
        x.go(2);
        x.day();
        Due.due("a LINE by DAY 1", x.line(0, 1, 1), 1);
        Due.feed(x, text);
        Due.due("pavement()", x.pavement(), 1);
        Due.due("nobody walks", x.walker(2), -1);
        Due.due("the SEED is the draw", x.about(4), 7);
        Due.due("a LINE by DAY 0", x.line(0, 1, 0), 1);
        Due.due("none by DAY 0", x.line(0, 1, 1), 0);
    }

    /** Promises 6 and 7 on the longest STREETS. */
    private static void inches() {
        SlabWalk x = Due.on("street a joint 9 1 1 1;street b joint 0 " + "1 ".repeat(400) + ";" + BARE.replace("street a", "street c"));
        for (int i = 0; i < 21; i++) {
            boolean joint = i % 10 != 0;
            Due.due("joint at " + i, x.inch(0, i, 0), joint ? 1 : 0);
            Due.due("nth at " + i, x.inch(0, i, 1), i / 10);
            Due.due("inch at " + i, x.inch(0, i, 2), joint ? i % 10 - 1 : 0);
            Due.due("long at " + i, x.inch(0, i, 3), joint ? 9 : 1);
            Due.due("words at " + i, x.inch(0, i, 4), 0);
        }
        for (int i = 0; i < 400; i++) {
            Due.due("nth of 400 SLABS", x.inch(1, i, 1), i);
            Due.due("inch of a SLAB of one", x.inch(1, i, 2), 0);
            Due.due("nth of SLABS of 60", x.inch(2, i, 1), i / 60);
            Due.due("inch of SLABS of 60", x.inch(2, i, 2), i % 60);
            Due.due("long of SLABS of 60", x.inch(2, i, 3), i < 360 ? 60 : 40);
        }
        // No joint behind the last SLAB, none ahead of the first, none if it is 0 wide.
        Due.due("one SLAB alone", Due.on("street a joint 9 5;").length(0), 5);
        Due.due("two SLABS", Due.on("street a joint 9 5 5;").length(0), 19);
        Due.due("two SLABS, no joint", Due.on("street a joint 0 5 5;").length(0), 10);
        Due.due("all words", Due.on("street a joint 9 5 shade drain broken red;").inch(0, 0, 4), 15);
        String[] words = {"red", "broken", "drain", "shade"};
        for (int bit = 0; bit < 4; bit++) {
            Due.due(words[bit], Due.on("street a joint 9 5 " + words[bit] + ";").inch(0, 4, 4), 1 << bit);
        }
    }

    /** Part 2: ints that wrap, / and % by 0, what is 1 or 0. */
    private static void formulas() {
        String most = "(4096*4096*128-1)";
        String least = "(4096*4096*128)";
        is(most + "+1=" + least);
        is(least + "-1=" + most);
        is(most + "*2=0-2");
        is(most + "*" + most + "=1");
        is(least + "*(0-1)=" + least);
        is(least + "/(0-1)=" + least);
        is(least + "%(0-1)=0");
        is("0-" + least + "=" + least);
        is(least + "<" + most);
        is("not " + least + ">" + most);
        is("9999*9999*9999=(9999*9999-4096*4096*5)*9999+4096*4096*5*9999");
        is("(0-7)/2=0-3");
        is("7/(0-2)=0-3");
        is("(0-7)/(0-2)=3");
        is("(0-7)%2=0-1");
        is("7%(0-2)=1");
        is("(0-7)%(0-2)=0-1");
        is("7/0=0");
        is("7%0=0");
        is("(0-7)/0=0");
        is("0/0+0%0=0");
        is("7/(1-1)=0");
        is("1/0+5=5");
        is("2+3*0/0=2");
        // Each is 1 or 0, not what it was of.
        is("(5 and 7)=1");
        is("(5 or 7)=1");
        is("(0-5 and 0-7)=1");
        is("(0 or 0-7)=1");
        is("(not 7)=0");
        is("(not not 7)=1");
        is("(not 0-7)=0");
        is("(7>5)=1");
        is("(7<5)=0");
        is("(5=5)+(5=5)=2");
        // A LINE is where it is not 0, below 0 as well.
        SlabWalk x = Due.on("street a joint 0 5;rule r inch-2;");
        for (int i = 0; i < 5; i++) {
            Due.due("inch-2 at " + i, x.line(0, 1, i), i == 2 ? 0 : 1);
        }
        // In a joint the words are 0; nth is that of the SLAB ahead.
        x = Due.on("street a joint 2 3 red broken drain shade 3;rule w red or broken or drain or shade;rule j joint;rule n nth;rule l long=2;"
            + "rule i inch=1;rule d day;");
        int[][] due = {{1, 1, 1, 0, 0, 0, 0, 0}, {0, 0, 0, 1, 1, 0, 0, 0}, {0, 0, 0, 0, 0, 1, 1, 1}, {0, 0, 0, 1, 1, 0, 0, 0},
            {0, 1, 0, 0, 1, 0, 1, 0}, {0, 0, 0, 0, 0, 0, 0, 0}};
        for (int rule = 0; rule < due.length; rule++) {
            for (int i = 0; i < 8; i++) {
                Due.due("RULE " + rule + " at " + i, x.line(0, 1 << rule, i), due[rule][i]);
            }
        }
        x.day();
        Due.due("day 1", x.line(0, 32, 0), 1);
        // 30 units, all joined last by the brackets in them.
        is("1+(1+(1+(1+(1+(1+(1+(1+1+1+1+1+1+1+1+1+1+1+1+1)))))))=20");
        manyNots();
    }

    /** As many nots as a text has room for, in RULES of which the last one has to be read whole, too. */
    private static void manyNots() {
        String nots = "not not not not not not not ";
        String rule = nots + "0" + (" and " + nots + "0").repeat(22);
        String text = "street a joint 0 5;rule a " + rule + ";rule b " + rule.substring(0, rule.length() - 1) + "1;";
        Due.due("bytes left", text.length() <= 1600 && text.length() > 1560, true);
        SlabWalk x = Due.on(text);
        Due.due("all are 1", x.line(0, 1, 4), 1);
        Due.due("all but the last", x.line(0, 2, 4), 0);
        // 90 units in a row, each with its sign.
        String sum = "inch" + "+inch".repeat(28) + "-";
        x = Due.on("street a joint 0 5;rule a " + sum + "29;rule b " + sum + "58;rule c " + sum + "116;");
        int[] due = {7, 6, 5, 7, 3};
        for (int i = 0; i < 5; i++) {
            for (int r = 0; r < 3; r++) {
                Due.due("29 inches at " + i, x.line(0, 1 << r, i), due[i] >> r & 1);
            }
        }
    }

    private static void is(String formula) {
        Due.due(formula, Due.on("street a joint 1 7;rule r " + formula + ";").line(0, 1, 0), 1);
    }

    /** Promise 8: the empty set is not the set of no LINES. */
    private static void sets() {
        SlabWalk x = Due.on("street a joint 1 2 2 red 2 broken 2 drain 2 shade;rule r 0;");
        int[] empty = {0, 0, 1, 0, 0, 1, 1, 1, 1, 1, 1, 1, 0, 0};
        for (int i = 0; i < empty.length; i++) {
            Due.due("by the empty set at " + i, x.line(0, 0, i), empty[i]);
            Due.due("by a RULE that is 0 at " + i, x.line(0, 1, i), 0);
        }
        x = Due.on("street a joint 0 6;rule a inch=0;rule b inch=1;rule c inch=2;rule d inch=3;rule e inch=4;rule f inch=5;");
        for (int set = 1; set < 64; set++) {
            for (int i = 0; i < 6; i++) {
                Due.due("by " + set + " at " + i, x.line(0, set, i), set >> i & 1);
            }
        }
    }

    /** Promise 9: none at all, one as long as the STREET, the first of like ones. */
    private static void gaps() {
        SlabWalk x = Due.on("street a joint 0 6;rule a 1;rule b inch=0;rule c inch=5;rule d inch%2=1;rule e inch=2;rule f inch=3;");
        int[][] due = {{0, 6, 0, 0}, {1, 0, -1, 6}, {2, 5, 1, 1}, {4, 5, 0, 1}, {8, 1, 0, 3}, {16, 3, 3, 1}, {32, 3, 0, 1}, {48, 2, 0, 2},
            {63, 0, -1, 6}};
        for (int[] q : due) {
            for (int what = 0; what < 3; what++) {
                Due.due("gap by " + q[0] + ", " + what, x.gap(0, q[0], what), q[what + 1]);
            }
        }
    }

    /** Promise 10: the last HEEL that stands, and the last INCH. */
    private static void feet() {
        for (int foot = 1; foot <= 12; foot++) {
            SlabWalk x = Due.on("street a joint 0 12;street b joint 0 3;walker w foot " + foot + " step 1 to 1;");
            for (int i = 0; i < 12; i++) {
                Due.due("foot " + foot + " at " + i, x.foot(0, 0, 0, i), i + foot <= 12 ? 1 : 0);
            }
            for (int i = 0; i < 3; i++) {
                Due.due("foot " + foot + " on 3 INCHES at " + i, x.foot(0, 1, 0, i), i + foot <= 3 ? 1 : 0);
            }
            Due.due("not in the STREET", x.foot(0, 0, 0, 12), -1);
            Due.due("not in the STREET", x.foot(0, 1, 0, 3), -1);
        }
    }

    /** Part 3: the first HEEL is from 0 to below his most. */
    private static void firstHeels() {
        for (int most = 1; most <= 12; most++) {
            for (int first = 0; first <= 13; first++) {
                // One HEEL alone is LAWFUL, and it is the END, for the STREET ends with it.
                String broken = first == 0 ? "" : first + " broken ";
                SlabWalk x = Due.on("street a joint 0 " + broken + "1;walker w foot 1 step 1 to " + most + ";");
                boolean can = first < most;
                Due.due("fewest", x.fewest(0, 0, 0, 0), can ? 1 : -1);
                Due.due("ways", x.ways(0, 0, 0, 1), can ? 1 : 0);
                Due.due("evens", x.evens(0, 0, 0), can ? most : 0);
                Due.due("leave", x.leave(0, 0), can ? 1 : 0);
                Due.due("walk", x.walk(0, 0, first), can ? 1 : -1);
                Due.due("evenest", x.evenest(0, 0, 0, 0), -1);
            }
        }
    }

    /** Part 3: the END is the first HEEL behind which his most would not stand. */
    private static void ends() {
        for (int length = 1; length <= 20; length++) {
            for (int foot = 1; foot <= 3; foot++) {
                SlabWalk x = Due.on("street a joint 0 " + length + ";walker w foot " + foot + " step 4 to 4;");
                // Even HEELS from 0, 1, 2, 3: the farther the first is, the fewer there have to be.
                int fewest = -1;
                int way = 0;
                for (int first = 3; first >= 0; first--) {
                    if (first + foot <= length) {
                        int feet = 1;
                        while (first + 4 * feet + foot <= length) {
                            feet++;
                        }
                        way = fewest < 0 || feet <= fewest ? first : way;
                        fewest = fewest < 0 || feet < fewest ? feet : fewest;
                    }
                }
                Due.due("fewest on " + length, x.fewest(0, 0, 0, 0), fewest);
                Due.due("its first HEEL on " + length, x.lies(0), fewest < 0 ? -1 : way);
                Due.due("evens on " + length, x.evens(0, 0, 0), fewest < 0 ? 0 : 1);
            }
        }
        // He could step on, but the first HEEL that is the END ends it: no WAY goes through two of them.
        SlabWalk x = Due.on("street a joint 0 10;walker w foot 1 step 1 to 8;");
        Due.due("2 to 7 are the END", x.ways(0, 0, 0, 1), 6);
        // From 0: 2 to 8, from 1: 2 to 9.
        Due.due("two FEET", x.ways(0, 0, 0, 2), 7 + 8);
        Due.due("three FEET", x.ways(0, 0, 0, 3), 8);
        Due.due("four FEET", x.ways(0, 0, 0, 4), 0);
    }

    /** Part 3: a LEAP is above his most, to his leap, and not behind a LEAP. */
    private static void leaps() {
        for (int gap = 1; gap <= 99; gap++) {
            // Two HEELS alone, so far apart; the second is the END.
            StringBuilder text = new StringBuilder("street a joint 0 1 ");
            for (int rest = gap - 1; rest > 0; rest -= 40) {
                text.append(Math.min(rest, 40)).append(" broken ");
            }
            text.append("1;walker v foot 1 step 3 to 6 leap 50;walker w foot 1 step 3 to 6 leap 99;walker u foot 1 step 3 to 6;hand 99 slack 99;");
            SlabWalk x = Due.on(text.toString());
            boolean step = gap >= 3 && gap <= 6;
            // Nearer than his most the second one can be the first HEEL, too.
            boolean first = gap < 6;
            Due.due("a leap to 50 over " + gap, x.fewest(0, 0, 0, 0), first ? 1 : gap <= 50 ? 2 : -1);
            Due.due("a leap to 99 over " + gap, x.fewest(1, 0, 0, 0), first ? 1 : 2);
            Due.due("no leap over " + gap, x.fewest(2, 0, 0, 0), first ? 1 : step ? 2 : -1);
            Due.due("leaps that keep the hand over " + gap, x.keeps(1, 0, 0), gap <= 6 ? 0 : 1);
            Due.due("ways of two FEET over " + gap, x.ways(1, 0, 0, 2), gap >= 6 ? 1 : 0);
            Due.due("evenest over " + gap, x.evenest(1, 0, 0, 1), gap == 6 ? 6 : -1);
        }
        // Behind a LEAP and a step a LEAP may be again; ahead of a LEAP there need be none.
        SlabWalk x = Due.on("street a joint 4 1 2 1;walker w foot 1 step 1 to 1 leap 5;hand 5 slack 9;");
        Due.due("a LEAP, a step, a LEAP", x.fewest(0, 0, 0, 0), 4);
        Due.lie("a LEAP, a step, a LEAP", x, 0, 5, 6, 11);
        Due.due("two LEAPS", x.keeps(0, 0, 0), 2);
        x = Due.on("street a joint 4 1 1 1;walker w foot 1 step 1 to 1 leap 5;hand 5 slack 9;rule r joint;");
        Due.due("two LEAPS alone", x.fewest(0, 0, 0, 0), -1);
        Due.due("two LEAPS alone", x.ways(0, 0, 0, 3), 0);
        Due.due("two LEAPS alone", x.keeps(0, 0, 0), -1);
        Due.due("two LEAPS alone", x.leave(0, 0), 0);
    }

    /** Promises 11, 15, 32: what lies there is the latest, and nothing behind NONE. */
    private static void whatLies() {
        SlabWalk x = Due.on(BARE + "walker w foot 1 step 1 to 60;walker v foot 1 step 1 to 1;rule r 1;");
        Due.due("400 HEELS", x.fewest(1, 0, 0, 0), 400);
        Due.due("the last", x.lies(399), 399);
        Due.due("none behind it", x.lies(400), -1);
        Due.due("60 lengths", x.evens(0, 0, 0), 60);
        for (int i = 0; i < 60; i++) {
            Due.due("upward", x.lies(i), i + 1);
        }
        Due.due("the HEELS are gone", x.lies(60), -1);
        Due.due("how many", x.about(13), 60);
        Due.due("six HEELS", x.fewest(0, 0, 0, 0), 6);
        Due.due("how many", x.about(13), 6);
        Due.due("no WAY", x.fewest(0, 0, 1, 0), -1);
        Due.due("nothing", x.about(13), 0);
        Due.due("nothing", x.lies(0), -1);
        x.fewest(0, 0, 0, 0);
        Due.due("no EVENS", x.evens(0, 0, 1), 0);
        Due.due("nothing", x.about(13), 0);
        x.fewest(0, 0, 0, 0);
        Due.due("it can't be", x.evens(0, 1, 0), -1);
        Due.due("nothing", x.about(13), 0);
        x.evens(0, 0, 0);
        Due.due("it can't be", x.fewest(0, 0, 0, 3), -1);
        Due.due("nothing", x.about(13), 0);
        // ACTS, UNDO, images and the TIME don't touch it.
        x.fewest(0, 0, 0, 0);
        x.walk(0, 0, 5);
        x.go(3);
        x.day();
        x.rain();
        x.undo();
        x.redo();
        x.image(0);
        x.back(0);
        x.later(5);
        x.sight(0, 0, 3);
        Due.due("it lies there still", x.about(13), 6);
        Due.due("it lies there still", x.lies(5), 340);
    }

    /** Promise 12: as many as can be told, and more. */
    private static void mostWays() {
        for (int groups = 2; groups <= 20; groups++) {
            // From each SLAB of ten INCHES any INCH of the next one can be stepped on, and no other.
            StringBuilder text = new StringBuilder("street a joint 9");
            long ways = 1;
            for (int i = 0; i < groups; i++) {
                text.append(" 10");
                ways = Math.min(ways * 10, 1_000_000_000_000_000L);
            }
            SlabWalk x = Due.on(text + " 9 broken;walker w foot 1 step 10 to 28;");
            Due.due("10 to the " + groups, x.ways(0, 0, 0, groups), ways);
            Due.due("one FOOT more", x.ways(0, 0, 0, groups + 1), 0);
            // On the second SLAB one may begin, too, but for its last INCH.
            long later = groups == 2 ? 9 : Math.min(9 * pow(10, groups - 2), 1_000_000_000_000_000L);
            Due.due("one FOOT less", x.ways(0, 0, 0, groups - 1), later);
        }
        // Below it each number is told as it is: the first SLAB has one INCH less.
        Due.due("9 times 10 to the 14", Due.on("street a joint 9 9" + " 10".repeat(14) + " 9 broken;walker w foot 1 step 10 to 28;").ways(0, 0, 0, 15),
            900_000_000_000_000L);
        SlabWalk x = Due.on(BARE + "walker w foot 1 step 1 to 60 leap 99;");
        Due.due("of 60 FEET", x.ways(0, 0, 0, 60), 1_000_000_000_000_000L);
        Due.due("of one FOOT", x.ways(0, 0, 0, 1), 0);
    }

    private static long pow(long of, int to) {
        return to == 0 ? 1 : of * pow(of, to - 1);
    }

    /** Promise 13: two FEET at least, no LEAPS, of like ones the least shortest. */
    private static void evenest() {
        SlabWalk x = Due.on("street a joint 0 20;walker w foot 1 step 2 to 9;walker v foot 1 step 1 to 20;walker u foot 1 step 20 to 21;"
            + "walker g foot 12 step 9 to 9;");
        Due.due("the least shortest of many", x.evenest(0, 0, 0, 1), 2);
        Due.due("none less than none", x.evenest(0, 0, 0, 0), 0);
        // Every HEEL is the END, so that no WAY has two FEET.
        Due.due("most so long as the STREET", x.evenest(1, 0, 0, 0), -1);
        Due.due("most longer", x.evenest(2, 0, 0, 1), -1);
        Due.due("a WAY of one FOOT, though", x.fewest(2, 0, 0, 0), 1);
        Due.due("a step just cut off", x.evenest(3, 0, 0, 0), -1);
        // He can begin at 0 alone if there are to be two FEET; 19 is the last HEEL.
        x = Due.on("street a joint 0 20;walker v foot 1 step 1 to 19;");
        Due.due("from 0 to 1", x.evenest(0, 0, 0, 1), 1);
        x = Due.on("street a joint 0 1 3 broken 1 3 broken 1;walker v foot 1 step 4 to 5;walker w foot 1 step 2 to 5;walker u foot 1 step 2 to 3 leap 4;");
        Due.due("4 and 4", x.evenest(0, 0, 0, 1), 4);
        Due.due("4 and 4", x.evenest(1, 0, 0, 1), 4);
        Due.due("by LEAPS alone", x.evenest(2, 0, 0, 1), -1);
    }

    /** Promise 14: 0 if the first is not LAWFUL, 1 if the next is not. */
    private static void even() {
        SlabWalk x = Due.on(BARE + "walker w foot 1 step 1 to 1;walker v foot 12 step 60 to 60;rule r inch=59;rule s 1;");
        Due.due("all 400", x.even(0, 0, 0, 0, 1), 400);
        Due.due("the last HEEL", x.even(0, 0, 0, 399, 1), 1);
        Due.due("the last INCH of a long FOOT", x.even(1, 0, 0, 399, 1), 0);
        Due.due("the last HEEL of a long FOOT", x.even(1, 0, 0, 388, 99), 1);
        Due.due("the first that does not stand", x.even(1, 0, 0, 389, 99), 0);
        Due.due("by 99", x.even(0, 0, 0, 0, 99), 5);
        Due.due("by 99 from 4", x.even(0, 0, 0, 4, 99), 4);
        Due.due("to the first LINE", x.even(0, 0, 1, 0, 1), 59);
        Due.due("on the first LINE", x.even(0, 0, 1, 59, 1), 0);
        Due.due("over the LINES", x.even(0, 0, 1, 58, 60), 6);
        Due.due("LINES alone", x.even(0, 0, 2, 0, 1), 0);
    }

    /** Promise 15: his least and his most are lengths, too; what does not come to the END is none. */
    private static void evens() {
        SlabWalk x = Due.on("street a joint 9 1 1 1 1;walker w foot 1 step 1 to 10;walker v foot 1 step 10 to 20;walker u foot 1 step 1 to 9;"
            + "walker t foot 1 step 11 to 30;");
        Due.due("his most", x.evens(0, 0, 0), 1);
        Due.lie("his most", x, 10);
        // Of these 10 and 20 come from 0 or 10, and whoever begins at 10 is 20 short of the last: at the END already.
        Due.due("his least and more", x.evens(1, 0, 0), 2);
        Due.lie("his least and more", x, 10, 20);
        Due.due("below it", x.evens(2, 0, 0), 0);
        // He begins at 10 or 20, which are the END: 10 and 20 farther than 30 below 31.
        Due.due("whatever he steps", x.evens(3, 0, 0), 20);
        x = Due.on("street a joint 0 5 broken;walker w foot 1 step 1 to 10;walker v foot 12 step 1 to 10;");
        Due.due("LINES alone", x.evens(0, 0, 0), 0);
        Due.due("a FOOT that is too long", x.evens(1, 0, 0), 0);
    }

    /** Promises 16 to 18: joints of 0, SLABS shorter than the FOOT, an INCH in the joint. */
    private static void endless() {
        SlabWalk x = new SlabWalk();
        Due.due("no joints: never", x.first(1, 0, 12, 99, 0), -1);
        Due.due("no joints: every INCH", x.begin(1, 0, 12, 99), 1);
        Due.due("no joints: every INCH", x.begin(60, 0, 12, 1), 60);
        Due.due("no joints: every length", x.suits(1, 0, 60, 0, 12), (1L << 60) - 1);
        Due.due("a SLAB too short", x.first(11, 1, 12, 12, 0), 0);
        Due.due("a SLAB too short", x.begin(11, 1, 12, 12), 0);
        Due.due("a SLAB too short", x.suits(11, 1, 60, 0, 12), 0);
        Due.due("a SLAB just so long", x.first(12, 1, 12, 13, 0), -1);
        Due.due("a SLAB just so long", x.first(12, 1, 12, 13, 1), 0);
        Due.due("a SLAB just so long", x.begin(12, 1, 12, 13), 1);
        Due.due("13, 26, 39, 52", x.suits(12, 1, 60, 0, 12), 1L << 12 | 1L << 25 | 1L << 38 | 1L << 51);
        for (int at = 60; at < 69; at++) {
            Due.due("in the joint", x.first(60, 9, 1, 69, at), 0);
        }
        Due.due("ahead of the joint", x.first(60, 9, 1, 69, 59), -1);
        Due.due("a foot ahead of it", x.first(60, 9, 12, 69, 48), -1);
        Due.due("on it", x.first(60, 9, 12, 69, 49), 0);
        Due.due("60 FEET and the joint", x.first(60, 9, 1, 1, 0), 60);
        Due.due("one FOOT and the joint", x.first(60, 9, 1, 1, 59), 1);
        Due.due("by a length beyond the round", x.first(5, 1, 1, 99, 2), 1);
        Due.due("one sort suits, the other does not", x.suits(12, 1, 11, 1, 12), 0);
    }

    /** Promise 19: the i-th HEEL at TICK i, from 0 on; within slack on either side. */
    private static void hand() {
        for (int slack = 0; slack <= 12; slack++) {
            // He goes 10 at each TICK, the hand 8 or 12: two INCHES more lie between them at each.
            String walker = "street a joint 0 41;walker w foot 1 step 10 to 10;";
            // From 9 or less; the END is 31 and farther. By hand 8: heel 10 i + f against 8 i, at most f + 6 from the hand.
            boolean behind = false;
            boolean ahead = false;
            for (int f = 0; f < 10; f++) {
                boolean near = f <= slack;
                boolean far = f <= slack;
                for (int i = 1; 10 * (i - 1) + f < 31; i++) {
                    near = near && Math.abs(10 * i + f - 8 * i) <= slack;
                    far = far && Math.abs(10 * i + f - 12 * i) <= slack;
                }
                behind = behind || near;
                ahead = ahead || far;
            }
            Due.due("hand 8 slack " + slack, Due.on(walker + "hand 8 slack " + slack + ";").keeps(0, 0, 0), behind ? 0 : -1);
            Due.due("hand 12 slack " + slack, Due.on(walker + "hand 12 slack " + slack + ";").keeps(0, 0, 0), ahead ? 0 : -1);
        }
        Due.due("one FOOT at TICK 0", Due.on("street a joint 0 5;walker w foot 1 step 9 to 9;hand 99 slack 0;").keeps(0, 0, 0), 0);
        Due.due("one FOOT too far", Due.on("street a joint 0 3 broken 5;walker w foot 1 step 9 to 9;hand 99 slack 2;").keeps(0, 0, 0), -1);
        Due.due("one FOOT near enough", Due.on("street a joint 0 3 broken 5;walker w foot 1 step 9 to 9;hand 99 slack 3;").keeps(0, 0, 0), 0);
        SlabWalk x = Due.on("street a joint 0 5 broken;walker w foot 1 step 1 to 9;walker v foot 12 step 1 to 9;hand 5 slack 99;");
        Due.due("no WAY", x.keeps(0, 0, 0), -1);
        Due.due("no WAY", x.keeps(1, 0, 0), -1);
        // 400 TICKS, and the fastest hand there is.
        Due.due("400 TICKS", Due.on(BARE + "walker w foot 1 step 1 to 1;hand 1 slack 0;").keeps(0, 0, 0), 0);
        Due.due("too fast", Due.on(BARE + "walker w foot 1 step 1 to 60;hand 99 slack 99;").keeps(0, 0, 0), -1);
        Due.due("just not too fast", Due.on(BARE + "walker w foot 1 step 1 to 60 leap 99;hand 99 slack 99;").keeps(0, 0, 0), 1);
    }

    /** Promises 20 and 21: 1 to 8 steps; who is THROUGH is so ever after; the least of like steps. */
    private static void brave() {
        SlabWalk x = Due.on("street a joint 0 3;walker w foot 1 step 3 to 9;slip 2 3 4;rule r inch>0;rule s 1;");
        long all = 1;
        for (int n = 1; n <= 8; n++) {
            all *= 9;
            // By 3 he slips onto 2 in two of nine, by 4 he is THROUGH.
            Due.due("through by one step, " + n, x.brave(0, 0, 1, 0, n), all);
            Due.due("the first that is sure, " + n, x.boldest(0, 0, 1, 0, n), 4);
            Due.due("on bare INCHES, " + n, x.brave(0, 0, 0, 2, n), all);
            Due.due("all are sure, " + n, x.boldest(0, 0, 0, 2, n), 3);
            Due.due("begun on a LINE, " + n, x.brave(0, 0, 1, 1, n), 0);
            Due.due("begun on a LINE, " + n, x.boldest(0, 0, 1, 1, n), 3);
            Due.due("LINES alone, " + n, x.brave(0, 0, 2, 0, n), 0);
        }
        x = Due.on("street a joint 0 60 60;walker w foot 1 step 1 to 1;slip 2 3 4;rule r inch=59;");
        // From 56 by one: 57, 58, 59 at the third; short each time he does not come to it.
        Due.due("one step", x.brave(0, 0, 1, 57, 1), 5);
        Due.due("one step", x.brave(0, 0, 1, 58, 1), 6);
        Due.due("one step, never onto it", x.brave(0, 0, 1, 56, 1), 9);
        Due.due("two steps", x.brave(0, 0, 1, 57, 2), 2 * 5 + 3 * 6);
        Due.due("always short", Due.on("street a joint 0 1 1 broken;walker w foot 1 step 1 to 1;slip 9 0 0;").brave(0, 0, 0, 0, 8), pow(9, 8));
        Due.due("never short", Due.on("street a joint 0 1 1 broken;walker w foot 1 step 1 to 1;slip 0 9 0;").brave(0, 0, 0, 0, 8), 0);
        Due.due("always long", Due.on("street a joint 0 1 1 broken;walker w foot 1 step 1 to 1;slip 0 0 9;").brave(0, 0, 0, 0, 8), pow(9, 8));
        Due.due("27 to the 8", Due.on(BARE + "walker w foot 12 step 1 to 60;slip 9 9 9;").brave(0, 0, 0, 0, 8), pow(27, 8));
        // The first step is told without its odds being asked, and not by what was asked before.
        x = Due.on("street a joint 0 60 60 broken;street b joint 0 20;walker w foot 1 step 1 to 60;walker v foot 1 step 7 to 9;rule r not(inch=0 or inch=5);");
        Due.due("onto the one INCH", x.boldest(0, 0, 1, 0, 1), 5);
        Due.due("on bare INCHES", x.boldest(0, 0, 0, 0, 1), 1);
        Due.due("another WALKER", x.boldest(1, 0, 0, 0, 1), 7);
        Due.due("from another HEEL", x.boldest(0, 0, 0, 59, 1), 1);
        Due.due("another STREET", x.boldest(0, 1, 1, 5, 1), 15);
        x = Due.on("street a joint 0 60 60 broken;walker w foot 12 step 1 to 60 leap 99;");
        Due.due("a LEAP is no step", x.brave(0, 0, 0, 0, 1), 1);
        Due.due("a LEAP is no step", x.brave(0, 0, 0, 48, 1), 0);
    }

    /** Promises 22 and 23: no RULE to add, none that leaves a WAY, sets that are full. */
    private static void wager() {
        SlabWalk x = Due.on("street a joint 0 9;walker w foot 1 step 1 to 2;walker v foot 12 step 1 to 2;");
        Due.due("no RULE", x.wager(0, 0, 0, 0), 0);
        Due.due("no RULE", x.wager(0, 0, 0, 1), -1);
        Due.due("the empty set alone", x.leave(0, 0), 1);
        Due.due("no WAY at all", x.leave(1, 0), 0);
        x = Due.on("street a joint 0 9;walker w foot 1 step 1 to 2;rule a 1;rule b 0;rule c inch=4 or inch=5;rule d inch=4;rule e 0;rule f 1;");
        // b, d, e are harmless one by one and together; a, c, f leave no WAY.
        Due.due("three are to be added", x.wager(0, 0, 0, 0), 1);
        Due.due("the first of them", x.wager(0, 0, 0, 1), 1);
        Due.due("one is added", x.wager(0, 0, 2, 0), 0);
        Due.due("two are added", x.wager(0, 0, 2 | 8, 1), 4);
        Due.due("three are added", x.wager(0, 0, 2 | 8 | 16, 0), 0);
        Due.due("all are added", x.wager(0, 0, 63, 0), 0);
        Due.due("all are added", x.wager(0, 0, 63, 1), -1);
        Due.due("no WAY by the set already", x.wager(0, 0, 1, 0), 0);
        Due.due("sets that leave a WAY", x.leave(0, 0), 8);
        // What was asked of more RULES, or of others, is not remembered.
        SlabWalk y = new SlabWalk();
        for (int rules = 6; rules >= 0; rules--) {
            for (int harm = 1; harm >= 0; harm--) {
                StringBuilder text = new StringBuilder("street a joint 0 9;walker w foot 1 step 1 to 2;");
                for (int i = 0; i < rules; i++) {
                    text.append("rule r").append((char) ('a' + i)).append(' ').append(harm).append(';');
                }
                Due.feed(y, text.toString());
                Due.due("pavement()", y.pavement(), 1);
                Due.due("wager on " + rules + " of " + harm, y.wager(0, 0, 0, 0), harm == 0 ? rules % 2 : 0);
                Due.due("its first on " + rules + " of " + harm, y.wager(0, 0, 0, 1), harm == 0 && rules % 2 == 1 ? 0 : -1);
                Due.due("from one on " + rules, y.wager(0, 0, 1, 0), rules == 0 ? -1 : harm == 0 ? (rules - 1) % 2 : 0);
                Due.due("leave on " + rules + " of " + harm, y.leave(0, 0), harm == 0 ? 1 << rules : 1);
            }
        }
        Due.due("of the empty set's LINES none counts by another", Due.on("street a joint 0 9 broken;walker w foot 1 step 1 to 2;rule a 0;").leave(0, 0), 1);
        Due.due("the last RULE wins", Due.on("street a joint 0 9;walker w foot 1 step 1 to 2;rule a 1;rule b 1;rule c 1;rule d 1;rule e 1;rule f 0;")
            .wager(0, 0, 0, 1), 5);
    }
}
