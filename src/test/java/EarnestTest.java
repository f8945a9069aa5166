import java.util.ArrayList;
import java.util.List;
import java.util.Random;

/** Promises 24 to 31 and 38 to 40: ACTS, UNDO and REDO, images. */
public final class EarnestTest {
    private static final int LEAST = Integer.MIN_VALUE;
    private static final int MOST = Integer.MAX_VALUE;
    private static final String TEXT = "street s joint 1 5 5 red 5 broken 5;walker w foot 2 step 3 to 5 leap 9;rule r red or joint;"
        + "rule n nth%2=1 and joint=0;slip 1 2 1;draw 5;walker v foot 12 step 1 to 60;street t joint 0 12;rule d day>0;";

    public static void main(String[] args) {
        nobody();
        walking();
        going();
        slipping();
        forcing();
        days();
        undoing();
        images();
        byChance();
        Due.finish();
    }

    private static void nobody() {
        SlabWalk x = Due.on(TEXT);
        for (int what = -1; what <= 6; what++) {
            Due.due("walker(" + what + ")", x.walker(what), -1);
        }
        Due.due("go(3)", x.go(3), -1);
        Due.due("undo()", x.undo(), false);
        Due.due("redo()", x.redo(), false);
        Due.due("ACTS", x.about(7), 0);
        x = new SlabWalk();
        Due.due("walk on nothing", x.walk(0, 0, 0), -1);
        Due.due("force on nothing", x.force(0), -1);
        Due.due("rain on nothing", x.rain(), true);
        Due.due("day on nothing", x.day(), 1);
        Due.due("sight on nothing", x.sight(0, 0, 0), -1);
    }

    private static void walking() {
        SlabWalk x = Due.on(TEXT);
        Due.due("walk", x.walk(0, 0, 3), 1);
        Due.state("walk", x, 0, 0, 3, 1, 1, 0);
        Due.due("walker(6)", x.walker(6), -1);
        Due.due("walker(-1)", x.walker(-1), -1);
        Due.due("walk on a joint", x.walk(0, 0, 4), 0);
        Due.state("walk on a joint", x, 0, 0, 4, 1, 0, 0);
        Due.due("who is EATEN can't go", x.go(3), -1);
        int[][] wrong = {{0, 0, 5}, {0, 0, -1}, {0, 0, LEAST}, {0, 0, MOST}, {2, 0, 0}, {-1, 0, 0}, {0, 2, 0}, {0, -1, 0},
            {MOST, 0, 0}, {0, MOST, 0}, {1, 0, 12}, {1, 1, 1}};
        for (int[] q : wrong) {
            Due.due("walk " + q[0] + " " + q[1] + " " + q[2], x.walk(q[0], q[1], q[2]), -1);
        }
        Due.state("nothing was done", x, 0, 0, 4, 1, 0, 0);
        Due.due("ACTS", x.about(7), 2);
        Due.due("walk, just standing", x.walk(1, 1, 0), 1);
        Due.state("walk, just standing", x, 1, 1, 0, 1, 1, 0);
        // He slips: two are one.
        Due.due("go beyond", x.go(2), 2);
        Due.state("go beyond", x, 1, 1, 0, 1, 2, 0);
        Due.due("who is THROUGH can't go", x.go(1), -1);
        x.rain();
        Due.due("walk in RAIN", x.walk(0, 0, 4), 1);
        Due.due("walk in RAIN, not standing", x.walk(1, 1, 1), -1);
    }

    private static void going() {
        SlabWalk x = Due.on(TEXT.replace("slip 1 2 1;", ""));
        x.walk(0, 0, 0);
        for (int by : new int[] {0, 2, 10, -3, LEAST, MOST}) {
            Due.due("go(" + by + ")", x.go(by), -1);
        }
        Due.due("SEED stays", x.about(4), 5);
        Due.due("go(3)", x.go(3), 1);
        Due.state("go(3)", x, 0, 0, 3, 2, 1, 0);
        Due.due("SEED", x.about(4), 756);
        Due.due("a LEAP", x.go(6), 1);
        Due.state("a LEAP", x, 0, 0, 9, 3, 1, 1);
        Due.due("SEED", x.about(4), (756 * 137 + 71) % 1000);
        Due.due("no LEAP behind it", x.go(6), -1);
        Due.due("a step behind it", x.go(5), 0);
        Due.state("EATEN", x, 0, 0, 14, 4, 0, 0);
        Due.due("undo", x.undo(), true);
        Due.due("a LEAP behind a LEAP that was not taken back", x.go(9), -1);
        Due.due("undo", x.undo(), true);
        Due.due("a LEAP onto LINES", x.go(9), 0);
        Due.state("EATEN by a LEAP", x, 0, 0, 12, 3, 0, 1);
        x = Due.on("street a joint 0 9;walker w foot 2 step 3 to 5 leap 9;");
        x.walk(0, 0, 4);
        Due.due("THROUGH by a LEAP", x.go(9), 2);
        Due.state("THROUGH by a LEAP", x, 0, 0, 4, 1, 2, 1);
        Due.due("SEED of no draw", x.about(4), 71);
        x.walk(0, 0, 4);
        Due.due("the last HEEL", x.go(3), 1);
        Due.state("the last HEEL", x, 0, 0, 7, 2, 1, 0);
        Due.due("THROUGH", x.go(3), 2);
        x = Due.on("street a joint 0 9;walker w foot 1 step 3 to 5;");
        x.walk(0, 0, 0);
        Due.due("who has no leap", x.go(6), -1);
        Due.due("his most", x.go(5), 1);
    }

    private static void slipping() {
        int[][] slips = {{1, 2, 1}, {0, 1, 0}, {9, 0, 0}, {0, 0, 9}, {3, 0, 4}, {9, 9, 9}, {0, 5, 2}};
        for (int[] slip : slips) {
            for (int draw = 0; draw < 1000; draw += 37) {
                SlabWalk x = Due.on("street a joint 0 60;walker w foot 1 step 5 to 9;draw " + draw + ";slip " + slip[0] + " " + slip[1]
                    + " " + slip[2] + ";");
                x.walk(0, 0, 0);
                int seed = draw;
                int heel = 0;
                for (int feet = 2; feet < 8; feet++) {
                    seed = (seed * 137 + 71) % 1000;
                    int rest = seed % (slip[0] + slip[1] + slip[2]);
                    heel += 7 + (rest < slip[0] ? -1 : rest < slip[0] + slip[1] ? 0 : 1);
                    Due.due("go(7)", x.go(7), 1);
                    Due.state("go(7)", x, 0, 0, heel, feet, 1, 0);
                    Due.due("SEED", x.about(4), seed);
                }
            }
        }
        SlabWalk x = Due.on("street a joint 0 9;walker w foot 1 step 1 to 2;slip 1 0 0;");
        x.walk(0, 0, 0);
        Due.due("an INCH short of one", x.go(1), 1);
        Due.state("an INCH short of one", x, 0, 0, 0, 2, 1, 0);
        x = Due.on("street a joint 0 5;walker w foot 1 step 4 to 5;slip 0 0 1;");
        x.walk(0, 0, 0);
        Due.due("an INCH too long", x.go(4), 2);
        Due.state("an INCH too long", x, 0, 0, 0, 1, 2, 0);
    }

    private static void forcing() {
        SlabWalk x = Due.on(TEXT);
        for (int rule : new int[] {-1, 3, LEAST, MOST}) {
            Due.due("force(" + rule + ")", x.force(rule), -1);
        }
        Due.due("ACTS", x.about(7), 0);
        Due.due("force(0)", x.force(0), 1);
        Due.due("force(2)", x.force(2), 1);
        Due.due("FORCE", x.about(5), 5);
        Due.due("force(0)", x.force(0), 0);
        Due.due("FORCE", x.about(5), 4);
        Due.due("walk by day>0", x.walk(0, 0, 4), 1);
        x.day();
        Due.due("who is UP stays so", x.walker(4), 1);
        Due.due("walk by day>0", x.walk(0, 0, 0), 0);
        x.rain();
        Due.due("walk in RAIN", x.walk(0, 0, 0), 1);
        x.rain();
        x.force(2);
        Due.due("walk by none", x.walk(0, 0, 0), 1);
        Due.due("walk by none", x.walk(0, 0, 4), 0);
        x.force(1);
        Due.due("walk by the other", x.walk(0, 0, 4), 1);
    }

    private static void days() {
        SlabWalk x = new SlabWalk();
        for (int day = 1; day <= 1000; day++) {
            Due.due("day()", x.day(), day);
        }
        Due.due("day() beyond", x.day(), -1);
        Due.due("DAY", x.about(3), 1000);
        Due.due("ACTS", x.about(7), 40);
        Due.due("undo", x.undo(), true);
        Due.due("DAY", x.about(3), 999);
        Due.due("day() again", x.day(), 1000);
        Due.due("redone", x.about(8), 0);
    }

    private static void undoing() {
        SlabWalk x = Due.on(TEXT);
        for (int i = 0; i < 45; i++) {
            Due.due("ACTS", x.about(7), Math.min(40, i));
            x.day();
        }
        for (int i = 0; i < 40; i++) {
            Due.due("undo", x.undo(), true);
            Due.due("undone", x.about(7), 39 - i);
            Due.due("redone", x.about(8), i + 1);
            Due.due("DAY", x.about(3), 44 - i);
        }
        Due.due("no undo", x.undo(), false);
        Due.due("DAY", x.about(3), 5);
        for (int i = 0; i < 40; i++) {
            Due.due("redo", x.redo(), true);
            Due.due("DAY", x.about(3), 6 + i);
        }
        Due.due("no redo", x.redo(), false);
        x.undo();
        x.undo();
        Due.due("what can't be is no ACT", x.force(9), -1);
        Due.due("redone", x.about(8), 2);
        x.rain();
        Due.due("another ACT", x.about(8), 0);
        Due.due("no redo", x.redo(), false);
        Due.due("ACTS", x.about(7), 39);
        Due.due("undo", x.undo(), true);
        Due.due("RAIN", x.about(6), 0);
        Due.due("redo", x.redo(), true);
        Due.due("RAIN", x.about(6), 1);
        x = Due.on(TEXT);
        x.walk(0, 0, 0);
        x.go(3);
        x.walk(1, 1, 0);
        x.undo();
        Due.state("he walks again", x, 0, 0, 2, 2, 1, 0);
        x.undo();
        Due.due("SEED", x.about(4), 5);
        x.undo();
        Due.due("nobody walks", x.walker(0), -1);
        x.redo();
        x.redo();
        Due.state("he walks again", x, 0, 0, 2, 2, 1, 0);
        Due.due("SEED", x.about(4), 756);
    }

    private static void images() {
        SlabWalk x = Due.on(TEXT);
        for (int box : new int[] {-1, 3, LEAST, MOST}) {
            Due.due("image(" + box + ")", x.image(box), -1);
            Due.due("back(" + box + ")", x.back(box), -1);
        }
        x.day();
        Due.due("back from an empty BOX", x.back(0), -1);
        Due.due("ACTS stay", x.about(7), 1);
        x.walk(0, 0, 3);
        x.go(6);
        x.force(1);
        Due.due("image(2)", x.image(2), 1);
        Due.due("ACTS stay", x.about(7), 4);
        x.rain();
        x.force(0);
        x.day();
        x.walk(0, 0, 0);
        x.undo();
        Due.due("image(0)", x.image(0), 2);
        Due.due("back(2)", x.back(2), 1);
        Due.state("back(2)", x, 0, 0, 8, 2, 1, 1);
        int[] about = {2, 2, 3, 1, 756, 2, 0, 0, 0};
        for (int what = 0; what < about.length; what++) {
            Due.due("behind back(2) about(" + what + ")", x.about(what), about[what]);
        }
        Due.due("no undo", x.undo(), false);
        Due.due("no redo", x.redo(), false);
        Due.due("back(0)", x.back(0), 2);
        Due.due("FORCE", x.about(5), 3);
        Due.due("RAIN", x.about(6), 1);
        Due.due("back(2) once more", x.back(2), 1);
        Due.due("undo behind back", x.rain() && x.undo() && x.about(6) == 0, true);
    }

    /** What is so in earnest, as a row, so that UNDO and images can be looked at as rows that are kept. */
    private static int[] all(SlabWalk x) {
        int[] row = new int[10];
        for (int what = 0; what < 6; what++) {
            row[what] = x.walker(what);
        }
        for (int what = 3; what < 7; what++) {
            row[what + 3] = x.about(what);
        }
        return row;
    }

    private static void byChance() {
        for (int seed = 0; seed < 60; seed++) {
            Random random = new Random(seed);
            SlabWalk x = Due.on(TEXT);
            List<int[]> done = new ArrayList<>();
            List<int[]> undone = new ArrayList<>();
            int[][] boxes = new int[3][];
            for (int i = 0; i < 300; i++) {
                int[] before = all(x);
                int act = random.nextInt(12);
                if (act == 9) {
                    Due.due("undo", x.undo(), !done.isEmpty());
                    if (!done.isEmpty()) {
                        undone.add(before);
                        same(x, done.remove(done.size() - 1));
                    }
                } else if (act == 10) {
                    Due.due("redo", x.redo(), !undone.isEmpty());
                    if (!undone.isEmpty()) {
                        done.add(before);
                        same(x, undone.remove(undone.size() - 1));
                    }
                } else if (act == 11) {
                    int box = random.nextInt(3);
                    if (random.nextBoolean()) {
                        x.image(box);
                        boxes[box] = before;
                    } else {
                        Due.due("back", x.back(box), boxes[box] == null ? -1 : boxes[box][6]);
                        if (boxes[box] != null) {
                            same(x, boxes[box]);
                            done.clear();
                            undone.clear();
                        }
                    }
                } else if (does(x, act, random)) {
                    done.add(before);
                    undone.clear();
                    if (done.size() > 40) {
                        done.remove(0);
                    }
                } else {
                    same(x, before);
                }
                Due.due("about(7)", x.about(7), done.size());
                Due.due("about(8)", x.about(8), undone.size());
            }
        }
    }

    private static boolean does(SlabWalk x, int act, Random random) {
        switch (act) {
            case 0: return x.force(random.nextInt(4)) >= 0;
            case 1: x.rain(); return true;
            case 2: return x.day() >= 0;
            case 3: case 4: return x.walk(random.nextInt(3), random.nextInt(3), random.nextInt(6)) >= 0;
            default: return x.go(random.nextInt(11)) >= 0;
        }
    }

    private static void same(SlabWalk x, int[] want) {
        int[] got = all(x);
        for (int i = 0; i < want.length; i++) {
            Due.due("what is so, " + i, got[i], want[i]);
        }
    }
}
