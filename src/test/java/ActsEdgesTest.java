/** Parts 2 and 4, promises 24 to 40: a test for each sentence that names an edge of what is done in earnest, seen, or kept. */
public final class ActsEdgesTest {
    private static final int LEAST = Integer.MIN_VALUE;
    private static final int MOST = Integer.MAX_VALUE;

    public static void main(String[] args) {
        walking();
        steps();
        seeds();
        slips();
        standing();
        rain();
        force();
        days();
        fortyActs();
        tillAnotherAct();
        takenBack();
        twentySights();
        knownAt();
        threeInches();
        lowestTerms();
        boxes();
        about();
        Due.finish();
    }

    private static void walking() {
        SlabWalk x = Due.on("street a joint 1 5 5;walker w foot 2 step 1 to 4;street b joint 0 3 broken 3;walker v foot 6 step 1 to 9;");
        Due.due("UP", x.walk(0, 0, 3), 1);
        Due.state("UP", x, 0, 0, 3, 1, 1, 0);
        Due.due("his most", x.walk(0, 0, 4), -1);
        Due.state("he walks on", x, 0, 0, 3, 1, 1, 0);
        Due.due("EATEN at once", x.walk(0, 1, 2), 0);
        Due.state("who walked walks no more", x, 0, 1, 2, 1, 0, 0);
        Due.due("his FOOT just stands, on LINES", x.walk(1, 1, 0), 0);
        Due.due("his FOOT does not stand", x.walk(1, 1, 1), -1);
        Due.state("nothing was done", x, 1, 1, 0, 1, 0, 0);
        Due.due("the last HEEL of the other STREET", x.walk(1, 0, 5), 0);
        Due.due("one farther", x.walk(1, 0, 6), -1);
        Due.due("ACTS", x.about(7), 4);
        Due.due("the SEED stays", x.about(4), 0);
        // One who is EATEN, or THROUGH, may be followed by one who walks.
        Due.due("another walks", x.walk(0, 0, 0), 1);
        for (int i = 0; i < 4; i++) {
            x.undo();
        }
        Due.state("the first walks again", x, 0, 0, 3, 1, 1, 0);
        x.undo();
        for (int what = 0; what < 6; what++) {
            Due.due("nobody walks", x.walker(what), -1);
        }
        Due.due("nobody goes", x.go(1), -1);
    }

    private static void steps() {
        for (int by = 0; by <= 30; by++) {
            SlabWalk x = Due.on("street a joint 0 60;walker w foot 1 step 4 to 9 leap 20;walker v foot 1 step 4 to 9;");
            x.walk(0, 0, 0);
            Due.due("with a leap by " + by, x.go(by), by >= 4 && by <= 20 ? 1 : -1);
            Due.due("behind it", x.walker(5), by > 9 && by <= 20 ? 1 : 0);
            int again = x.go(10);
            Due.due("a LEAP behind it", again, by > 9 && by <= 20 ? -1 : 1);
            x.walk(1, 0, 0);
            Due.due("without a leap by " + by, x.go(by), by >= 4 && by <= 9 ? 1 : -1);
        }
        // A step behind the LEAP makes room for another one; to begin anew does, too, and so does UNDO.
        SlabWalk x = Due.on("street a joint 0 60;walker w foot 1 step 4 to 9 leap 20;");
        x.walk(0, 0, 0);
        Due.due("LEAP", x.go(10), 1);
        Due.due("step", x.go(4), 1);
        Due.due("LEAP", x.go(20), 1);
        Due.due("LEAP", x.go(10), -1);
        x.undo();
        Due.due("LEAP in place of the LEAP", x.go(11), 1);
        x.walk(0, 0, 0);
        Due.due("LEAP of one who begins", x.go(10), 1);
        x.undo();
        x.redo();
        Due.due("LEAP behind a LEAP that was redone", x.go(10), -1);
        x.image(0);
        x.walk(0, 0, 0);
        x.back(0);
        Due.due("LEAP behind a LEAP that was kept", x.go(10), -1);
        Due.due("step behind it", x.go(4), 1);
    }

    private static void seeds() {
        for (int draw : new int[] {0, 1, 499, 500, 998, 999}) {
            SlabWalk x = Due.on("street a joint 0 60;walker w foot 1 step 1 to 1;draw " + draw + ";");
            Due.due("the draw", x.about(4), draw);
            x.walk(0, 0, 0);
            Due.due("walk does not draw", x.about(4), draw);
            long seed = draw;
            for (int i = 0; i < 50; i++) {
                x.go(1);
                seed = (137 * seed + 71) % 1000;
                Due.due("the SEED behind " + i, x.about(4), seed);
            }
        }
        // Who is EATEN, or THROUGH, has drawn as well.
        SlabWalk x = Due.on("street a joint 0 1 1 broken 1;walker w foot 1 step 1 to 3;draw 999;");
        x.walk(0, 0, 0);
        Due.due("EATEN", x.go(1), 0);
        Due.due("the SEED", x.about(4), 934);
        x.walk(0, 0, 0);
        Due.due("THROUGH", x.go(3), 2);
        Due.due("the SEED", x.about(4), 29);
        x.undo();
        x.undo();
        Due.due("the SEED is undone to", x.about(4), 934);
        x.undo();
        Due.due("the SEED is undone to", x.about(4), 999);
    }

    /** Each rest by all slips together: below the first, below the first two, the rest. */
    private static void slips() {
        int[][] slips = {{2, 3, 4}, {1, 0, 0}, {0, 0, 1}, {0, 9, 9}, {9, 0, 9}, {9, 9, 0}, {1, 1, 1}};
        for (int[] slip : slips) {
            int all = slip[0] + slip[1] + slip[2];
            for (int draw = 0; draw < 60; draw++) {
                SlabWalk x = Due.on("street a joint 0 60;walker w foot 1 step 5 to 5;draw " + draw + ";slip " + slip[0] + " " + slip[1] + " " + slip[2] + ";");
                Due.due("all slips", x.about(14), all);
                x.walk(0, 0, 0);
                x.go(5);
                int rest = (137 * draw + 71) % 1000 % all;
                int due = rest < slip[0] ? 4 : rest < slip[0] + slip[1] ? 5 : 6;
                Due.due("rest " + rest + " of " + all, x.walker(2), due);
            }
        }
    }

    /** If his FOOT would not stand he is THROUGH, else EATEN if it is not LAWFUL. */
    private static void standing() {
        for (int foot = 1; foot <= 12; foot++) {
            for (int slip = 0; slip < 3; slip++) {
                String slips = slip == 0 ? "slip 1 0 0;" : slip == 1 ? "slip 0 1 0;" : "slip 0 0 1;";
                SlabWalk x = Due.on("street a joint 0 30;walker w foot " + foot + " step 1 to 40 leap 45;rule r inch>0;" + slips);
                int last = 30 - foot;
                int to = last - slip + 1;
                x.walk(0, 0, 0);
                Due.due("the last HEEL", x.go(to), 1);
                Due.state("the last HEEL", x, 0, 0, last, 2, 1, 0);
                x.undo();
                Due.due("one farther", x.go(to + 1), 2);
                Due.state("one farther", x, 0, 0, 0, 1, 2, 0);
                x.undo();
                Due.due("by a LEAP", x.go(45), 2);
                Due.state("by a LEAP", x, 0, 0, 0, 1, 2, 1);
                x.undo();
                x.force(0);
                Due.due("the last HEEL, LINES", x.go(to), 0);
                Due.state("the last HEEL, LINES", x, 0, 0, last, 2, 0, 0);
                x.undo();
                Due.due("one farther, LINES", x.go(to + 1), 2);
            }
        }
    }

    /** In RAIN each FOOT that stands is LAWFUL, and no other; what is asked is without RAIN. */
    private static void rain() {
        SlabWalk x = Due.on("street a joint 0 9 broken;walker w foot 3 step 1 to 9;rule r 1;");
        Due.due("not in RAIN", x.walk(0, 0, 0), 0);
        Due.due("RAIN begins", x.rain(), true);
        Due.due("who is EATEN stays so", x.walker(4), 0);
        Due.due("and can't go", x.go(1), -1);
        Due.due("in RAIN", x.walk(0, 0, 0), 1);
        Due.due("in RAIN", x.go(1), 1);
        x.force(0);
        Due.due("in RAIN, by a RULE", x.go(1), 1);
        Due.due("in RAIN, not standing", x.walk(0, 0, 7), -1);
        Due.due("line", x.line(0, 1, 0), 1);
        Due.due("foot", x.foot(0, 0, 1, 0), 0);
        Due.due("fewest", x.fewest(0, 0, 0, 0), -1);
        Due.due("leave", x.leave(0, 0), 0);
        Due.due("brave", x.brave(0, 0, 0, 0, 1), 0);
        x.sight(0, 0, 0);
        Due.due("fits", x.fits(0), 0);
        Due.due("chance", x.chance(0, 0, 0), 0);
        Due.due("RAIN ends", x.rain(), false);
        Due.due("who is UP stays so", x.walker(4), 1);
        Due.due("but can't go on", x.go(1), 0);
        x.undo();
        x.undo();
        Due.due("RAIN is undone to", x.about(6), 1);
        Due.due("and goes on", x.go(4), 1);
        Due.due("THROUGH in RAIN", x.go(1), 2);
    }

    private static void force() {
        SlabWalk x = Due.on("street a joint 1 3 3 red;walker w foot 1 step 1 to 4;rule r red;rule n 0;");
        Due.due("none in FORCE: the joint", x.walk(0, 0, 3), 0);
        Due.due("force(1)", x.force(1), 1);
        Due.due("a RULE that is 0 in FORCE", x.walk(0, 0, 3), 1);
        Due.due("red", x.go(1), 1);
        Due.due("force(0)", x.force(0), 1);
        Due.due("both", x.about(5), 3);
        Due.due("who is UP stays so", x.walker(4), 1);
        Due.due("red again", x.go(1), 0);
        Due.due("force(1)", x.force(1), 0);
        Due.due("the first alone", x.about(5), 1);
        Due.due("force(0)", x.force(0), 0);
        Due.due("none", x.about(5), 0);
        Due.due("none in FORCE: the joint", x.walk(0, 0, 3), 0);
        x = Due.on("rule a 0;rule b 0;rule c 0;rule d 0;rule e 0;rule f 0;");
        for (int rule = 0; rule < 6; rule++) {
            Due.due("force(" + rule + ")", x.force(rule), 1);
            Due.due("FORCE", x.about(5), (2 << rule) - 1);
        }
        Due.due("force(6)", x.force(6), -1);
        for (int rule = 0; rule < 6; rule++) {
            Due.due("force(" + rule + ")", x.force(rule), 0);
            Due.due("FORCE", x.about(5), 63 & -(2 << rule));
        }
    }

    private static void days() {
        SlabWalk x = Due.on("street a joint 0 9;walker w foot 1 step 1 to 9;rule r day>2;");
        for (int day = 0; day < 5; day++) {
            Due.due("DAY", x.about(3), day);
            Due.due("line by DAY " + day, x.line(0, 1, 0), day > 2 ? 1 : 0);
            Due.due("fewest by DAY " + day, x.fewest(0, 0, 1, 0), day > 2 ? -1 : 1);
            Due.due("leave by DAY " + day, x.leave(0, 0), day > 2 ? 1 : 2);
            Due.due("day()", x.day(), day + 1);
        }
        for (int i = 0; i < 3; i++) {
            x.undo();
        }
        Due.due("DAY 2 again", x.line(0, 1, 0), 0);
        x.redo();
        Due.due("DAY 3 again", x.line(0, 1, 0), 1);
        x.image(0);
        x.undo();
        Due.due("DAY 2 again", x.line(0, 1, 0), 0);
        Due.due("back to DAY 3", x.back(0), 3);
        Due.due("DAY 3 again", x.line(0, 1, 0), 1);
        // The last DAY there is, which takes more calls than an object is promised for.
        x = new SlabWalk();
        for (int day = 1; day <= 1000; day++) {
            x.day();
        }
        Due.due("DAY", x.about(3), 1000);
        Due.due("one too many", x.day(), -1);
        Due.due("DAY", x.about(3), 1000);
        x.undo();
        Due.due("it was no ACT", x.about(3), 999);
    }

    /** 40 ACTS at most are kept, the oldest go. */
    private static void fortyActs() {
        for (int acts : new int[] {1, 39, 40, 41, 42, 80, 120}) {
            SlabWalk x = new SlabWalk();
            for (int i = 0; i < acts; i++) {
                x.day();
            }
            int kept = Math.min(40, acts);
            Due.due("kept of " + acts, x.about(7), kept);
            for (int i = 0; i < kept; i++) {
                Due.due("undo " + i + " of " + acts, x.undo(), true);
            }
            Due.due("no more of " + acts, x.undo(), false);
            Due.due("the DAY then", x.about(3), acts - kept);
            Due.due("redone", x.about(8), kept);
            for (int i = 0; i < kept; i++) {
                Due.due("redo " + i + " of " + acts, x.redo(), true);
            }
            Due.due("no more of " + acts, x.redo(), false);
            Due.due("the DAY then", x.about(3), acts);
            Due.due("kept again", x.about(7), kept);
        }
        // Undone and done again at the limit.
        SlabWalk x = new SlabWalk();
        for (int i = 0; i < 40; i++) {
            x.day();
        }
        for (int i = 0; i < 10; i++) {
            x.undo();
        }
        for (int i = 0; i < 12; i++) {
            Due.due("another ACT", x.rain(), i % 2 == 0);
        }
        Due.due("kept", x.about(7), 40);
        for (int i = 0; i < 40; i++) {
            Due.due("undo", x.undo(), true);
        }
        Due.due("no more", x.undo(), false);
        Due.due("two DAYS are gone for good", x.about(3), 2);
        // All sorts of ACTS are kept alike.
        x = Due.on("street a joint 0 60;walker w foot 1 step 1 to 2;rule r 0;");
        for (int i = 0; i < 9; i++) {
            x.walk(0, 0, 0);
            x.go(1);
            x.force(0);
            x.rain();
            x.day();
        }
        Due.due("40 of 45", x.about(7), 40);
        for (int i = 0; i < 40; i++) {
            x.undo();
        }
        Due.due("no more", x.undo(), false);
        Due.due("behind the first five", x.about(3), 1);
        Due.due("behind the first five", x.about(4), 71);
        Due.state("behind the first five", x, 0, 0, 1, 2, 1, 0);
    }

    /** REDO till another ACT; what is no ACT does not end it. */
    private static void tillAnotherAct() {
        for (int what = 0; what < 17; what++) {
            SlabWalk x = Due.on("street a joint 0 60;walker w foot 1 step 1 to 2;rule r 0;");
            x.walk(0, 0, 0);
            x.day();
            x.day();
            x.undo();
            switch (what) {
                case 0: x.walk(0, 0, 1); break;
                case 1: x.go(1); break;
                case 2: x.force(0); break;
                case 3: x.rain(); break;
                case 4: x.day(); break;
                case 5: x.walk(0, 0, 2); break;
                case 6: x.go(3); break;
                case 7: x.force(1); break;
                case 8: x.sight(0, 0, 0); break;
                case 9: x.later(1); break;
                case 10: x.image(0); break;
                case 11: x.fewest(0, 0, 0, 0); break;
                case 12: x.feed(1, 2, 3, 4, 5); break;
                case 13:
                    x.undo();
                    x.redo();
                    break;
                case 14:
                    x.feed(1, 2, 3, 4, 5);
                    x.pavement();
                    break;
                case 15: x.back(1); break;
                default: x.leave(0, 0);
            }
            boolean act = what < 5;
            Due.due("redone behind " + what, x.about(8), act ? 0 : 1);
            Due.due("undone behind " + what, x.about(7), act ? 3 : 2);
            Due.due("redo behind " + what, x.redo(), !act);
            Due.due("the DAY behind " + what, x.about(3), what == 4 || !act ? 2 : 1);
        }
    }

    private static void takenBack() {
        SlabWalk x = Due.on("street a joint 1 5 5;walker w foot 1 step 1 to 5 leap 9;rule r red;draw 3;");
        int[][] due = new int[7][10];
        for (int act = 0; act < 7; act++) {
            due[act] = row(x);
            switch (act) {
                case 0: x.walk(0, 0, 1); break;
                case 1: x.go(2); break;
                case 2: x.rain(); break;
                case 3: x.go(6); break;
                case 4: x.force(0); break;
                case 5: x.day(); break;
                default: x.go(5);
            }
        }
        int[] last = row(x);
        for (int round = 0; round < 3; round++) {
            for (int act = 6; act >= 0; act--) {
                Due.due("undo", x.undo(), true);
                same("undone", x, due[act]);
            }
            Due.due("undo of none", x.undo(), false);
            for (int act = 1; act < 7; act++) {
                Due.due("redo", x.redo(), true);
                same("redone", x, due[act]);
            }
            Due.due("redo", x.redo(), true);
            same("redone", x, last);
            Due.due("redo of none", x.redo(), false);
        }
    }

    private static int[] row(SlabWalk x) {
        int[] row = new int[10];
        for (int what = 0; what < 6; what++) {
            row[what] = x.walker(what);
        }
        for (int what = 3; what < 7; what++) {
            row[what + 3] = x.about(what);
        }
        return row;
    }

    private static void same(String told, SlabWalk x, int[] due) {
        int[] got = row(x);
        for (int i = 0; i < due.length; i++) {
            Due.due(told + ", " + i, got[i], due[i]);
        }
    }

    private static void twentySights() {
        SlabWalk x = Due.on("street a joint 0 30;walker w foot 3 step 1 to 2;rule r inch=29;");
        for (int i = 0; i < 20; i++) {
            Due.due("how many", x.about(9), i);
            Due.due("its number", x.sight(0, 0, i), i);
        }
        Due.due("one too many", x.sight(0, 0, 0), -1);
        Due.due("it would not fit", x.sight(0, 0, 27), -1);
        Due.due("fits", x.fits(0), 1);
        Due.due("UNTOLD", x.untell(5), true);
        Due.due("it is one of the 20 still", x.sight(0, 0, 0), -1);
        Due.due("how many", x.about(9), 20);
        Due.due("UNTOLD already", x.untell(5), false);
        x.later(10);
        Due.due("UNTOLD already", x.untell(5), false);
        Due.due("at a later TIME", x.untell(6), true);
        Due.due("none such", x.untell(20), false);
        Due.due("none such", x.untell(-1), false);
    }

    /** Known at k: TOLD at k or before, not UNTOLD at k or before. */
    private static void knownAt() {
        SlabWalk x = Due.on("street a joint 0 30;walker w foot 1 step 1 to 2;rule r inch=7;rule s inch=8;");
        x.later(100);
        x.sight(0, 0, 7);
        int[][] due = {{LEAST, 3}, {-1, 3}, {0, 3}, {99, 3}, {100, 2}, {101, 2}, {MOST, 2}};
        for (int[] q : due) {
            Due.due("told at 100, known at " + q[0], x.fits(q[0]), q[1]);
            Due.due("upper, known at " + q[0], x.chance(0, 0, q[0]), q[1] == 3 ? 1 : 6);
            Due.due("lower, known at " + q[0], x.chance(0, 1, q[0]), q[1] == 3 ? 1 : 7);
        }
        x.later(50);
        x.untell(0);
        due = new int[][] {{99, 3}, {100, 2}, {149, 2}, {150, 3}, {151, 3}, {MOST, 3}};
        for (int[] q : due) {
            Due.due("untold at 150, known at " + q[0], x.fits(q[0]), q[1]);
        }
        // Told and untold at one TIME: never known.
        Due.due("sight", x.sight(0, 0, 8), 1);
        Due.due("untell", x.untell(1), true);
        for (int k : new int[] {149, 150, 151, MOST}) {
            Due.due("never known, at " + k, x.fits(k), k < 150 ? 2 : 3);
        }
        // UNDO and images don't touch SIGHTS, nor the TIME.
        x.day();
        x.image(0);
        x.sight(0, 0, 9);
        x.later(1);
        x.undo();
        x.back(0);
        Due.due("SIGHTS", x.about(9), 3);
        Due.due("the TIME", x.about(10), 151);
        // No RULE, no bit; each alone, whatever the others say.
        x = Due.on("street a joint 2 4 4 broken;walker w foot 1 step 1 to 2;rule a 1;rule b 0;rule c red;rule d joint;rule e broken;rule f nth;");
        x.sight(0, 0, 4);
        x.sight(0, 0, 9);
        Due.due("each alone", x.fits(0), 6);
        Due.due("none counts", x.fits(-1), 63);
    }

    /** By CHANCE: of HEELS that stand, not farther than 3 INCHES. */
    private static void threeInches() {
        for (int length = 1; length <= 12; length++) {
            for (int foot = 1; foot <= 3 && foot <= length; foot++) {
                for (int heel = 0; heel + foot <= length; heel++) {
                    SlabWalk x = Due.on("street a joint 0 " + length + ";walker w foot " + foot + " step 1 to 2;rule r inch=0;rule s 1;rule t 0;");
                    x.sight(0, 0, heel);
                    int stand = Math.min(heel, 3) + 1 + Math.min(length - foot - heel, 3);
                    // By r the HEEL 0 alone is not LAWFUL.
                    int lawful = heel <= 3 ? stand - 1 : stand;
                    int common = lawful == 0 ? stand : lawful == stand ? stand : gcd(stand, lawful);
                    Due.due("upper", x.chance(0, 0, 0), lawful / common);
                    Due.due("lower", x.chance(0, 1, 0), stand / common);
                    Due.due("upper of none", x.chance(1, 0, 0), 0);
                    Due.due("lower of none", x.chance(1, 1, 0), 1);
                    Due.due("upper of all", x.chance(2, 0, 0), 1);
                    Due.due("lower of all", x.chance(2, 1, 0), 1);
                }
            }
        }
    }

    private static int gcd(int a, int b) {
        return b == 0 ? a : gcd(b, a % b);
    }

    private static void lowestTerms() {
        SlabWalk x = Due.on("street a joint 0 60;walker w foot 1 step 1 to 2;rule r inch=0;rule s inch=30;rule t 1;");
        Due.due("none counts", x.chance(0, 0, 0), 1);
        Due.due("none counts", x.chance(0, 1, 0), 1);
        Due.due("none counts, by LINES alone", x.chance(2, 0, 0), 1);
        long upper = 1;
        long lower = 1;
        for (int i = 1; i <= 20; i++) {
            x.sight(0, 0, i % 2 == 0 ? 0 : 30);
            // 3 of 4, then 6 of 7, by turns; no number divides both.
            Due.due("by s", x.chance(1, 0, 0), pow(6, (i + 1) / 2));
            Due.due("by s", x.chance(1, 1, 0), pow(7, (i + 1) / 2));
            upper = pow(3, i / 2);
            lower = pow(4, i / 2);
            Due.due("by r", x.chance(0, 0, 0), upper);
            Due.due("by r", x.chance(0, 1, 0), lower);
        }
        x = Due.on("street a joint 0 60;walker w foot 1 step 1 to 2;rule r inch>26;rule s inch>28 and inch<31;");
        for (int i = 0; i < 20; i++) {
            x.sight(0, 0, 30);
        }
        Due.due("0 of 7, 20 times", x.chance(0, 0, 0), 0);
        Due.due("0 of 7, 20 times", x.chance(0, 1, 0), 1);
        Due.due("5 of 7, 20 times", x.chance(1, 0, 0), pow(5, 20));
        Due.due("5 of 7, 20 times", x.chance(1, 1, 0), pow(7, 20));
    }

    private static long pow(long of, int to) {
        return to == 0 ? 1 : of * pow(of, to - 1);
    }

    private static void boxes() {
        SlabWalk x = Due.on("street a joint 0 60;walker w foot 1 step 1 to 5 leap 9;rule r 0;draw 4;");
        for (int box = 0; box < 3; box++) {
            Due.due("nothing was kept", x.back(box), -1);
        }
        Due.due("nobody walks", x.image(0), 0);
        x.walk(0, 0, 2);
        x.go(9);
        x.day();
        x.force(0);
        x.rain();
        x.undo();
        Due.due("a LEAP, DAY 1", x.image(1), 1);
        Due.due("ACTS stay", x.about(7), 4);
        Due.due("undone ones stay", x.about(8), 1);
        Due.due("redo", x.redo(), true);
        Due.due("a third", x.image(2), 1);
        int[] third = row(x);
        Due.due("back(0)", x.back(0), 0);
        Due.due("nobody walks", x.walker(0), -1);
        Due.due("the SEED", x.about(4), 4);
        Due.due("no ACTS", x.about(7), 0);
        Due.due("none undone", x.about(8), 0);
        Due.due("no undo", x.undo(), false);
        Due.due("no redo", x.redo(), false);
        Due.due("back(1)", x.back(1), 1);
        Due.state("back(1)", x, 0, 0, 11, 2, 1, 1);
        Due.due("FORCE", x.about(5), 1);
        Due.due("RAIN", x.about(6), 0);
        x.day();
        x.undo();
        Due.due("one is undone", x.about(8), 1);
        Due.due("back(2)", x.back(2), 1);
        same("back(2)", x, third);
        Due.due("none undone", x.about(8), 0);
        // A BOX that was kept in is kept in anew; the others are not touched, nor is it by what is done later.
        x.day();
        Due.due("image(1) again", x.image(1), 2);
        x.day();
        Due.due("back(0)", x.back(0), 0);
        Due.due("back(1)", x.back(1), 2);
        Due.due("back(1) once more", x.back(1), 2);
        Due.due("back(2)", x.back(2), 1);
        same("back(2)", x, third);
        // A FAULT leaves them; a PAVEMENT empties them.
        Due.feed(x, "?");
        x.pavement();
        Due.due("behind a FAULT", x.back(1), 2);
        x.pavement();
        for (int box = 0; box < 3; box++) {
            Due.due("behind a PAVEMENT", x.back(box), -1);
        }
    }

    private static void about() {
        SlabWalk x = Due.on("street a joint 0 60;street b joint 0 5;walker w foot 1 step 1 to 5 leap 9;rule r 1+(2);rule s 0;rule t 5;draw 4;slip 2 3 4;");
        x.walk(0, 0, 0);
        x.force(1);
        x.rain();
        x.day();
        x.day();
        x.undo();
        x.later(7);
        x.sight(0, 0, 0);
        x.evens(0, 1, 0);
        x.feed(0, 0, 0, 0, 0);
        int[] due = {2, 1, 3, 1, 4, 2, 1, 4, 1, 1, 7, 20, 5, 5, 9};
        for (int what = 0; what < due.length; what++) {
            Due.due("about(" + what + ")", x.about(what), due[what]);
        }
        for (int what : new int[] {-1, 15, LEAST, MOST}) {
            Due.due("about(" + what + ")", x.about(what), -1);
        }
    }
}
