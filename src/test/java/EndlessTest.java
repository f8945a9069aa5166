/** Promises 16 to 18: ENDLESS SLABS, against FEET set one by one. */
public final class EndlessTest {
    public static void main(String[] args) {
        int tried = 0;
        for (int slab = 1; slab <= 60; slab += slab < 16 ? 1 : 7) {
            for (int joint = 0; joint <= 9; joint++) {
                for (int foot = 1; foot <= 12; foot += foot < 4 ? 1 : 4) {
                    tried += compare(new SlabWalk(), slab, joint, foot);
                }
            }
        }
        Due.due("tried", tried > 1000, true);
        edges();
        Due.finish();
    }

    /** How many FEET are LAWFUL, or -1 if a thousand are. */
    private static int feet(int slab, int joint, int foot, int by, int x) {
        for (int feet = 0; feet < 1000; feet++) {
            for (int i = 0; i < foot; i++) {
                if ((x + feet * by + i) % (slab + joint) >= slab) {
                    return feet;
                }
            }
        }
        return -1;
    }

    private static int compare(SlabWalk x, int slab, int joint, int foot) {
        long suits = 0;
        for (int by = 1; by <= 99; by += by < 60 ? 1 : 13) {
            int never = 0;
            for (int from = 0; from < slab + joint; from++) {
                int due = feet(slab, joint, foot, by, from);
                Due.due("first " + slab + " " + joint + " " + foot + " " + by + " " + from, x.first(slab, joint, foot, by, from), due);
                never += due < 0 ? 1 : 0;
            }
            Due.due("begin " + slab + " " + joint + " " + foot + " " + by, x.begin(slab, joint, foot, by), never);
            suits |= never > 0 && by <= 60 ? 1L << by - 1 : 0;
        }
        Due.due("suits", x.suits(slab, joint, slab, joint, foot), suits);
        Due.due("suits with any", x.suits(slab, joint, 7, 0, foot), suits);
        Due.due("suits with any", x.suits(7, 0, slab, joint, foot), suits);
        long other = x.suits(12, 3, 12, 3, foot);
        Due.due("suits with another", x.suits(slab, joint, 12, 3, foot), suits & other);
        return 1;
    }

    private static void edges() {
        SlabWalk x = new SlabWalk();
        Due.due("suits", x.suits(5, 1, 5, 1, 2), 658812288346769700L);
        Due.due("all suit", x.suits(60, 0, 1, 0, 12), (1L << 60) - 1);
        int least = Integer.MIN_VALUE;
        int most = Integer.MAX_VALUE;
        int[][] wrong = {{0, 1, 2, 3, 0}, {61, 1, 2, 3, 0}, {5, -1, 2, 3, 0}, {5, 10, 2, 3, 0}, {5, 1, 0, 3, 0}, {5, 1, 13, 3, 0},
            {5, 1, 2, 0, 0}, {5, 1, 2, 100, 0}, {least, 1, 2, 3, 0}, {most, 1, 2, 3, 0}, {5, most, 2, 3, 0}, {5, 1, most, 3, 0},
            {5, 1, 2, most, 0}, {5, 1, 2, least, 0}};
        for (int[] q : wrong) {
            Due.due("first of a wrong one", x.first(q[0], q[1], q[2], q[3], q[4]), -2);
            Due.due("begin of a wrong one", x.begin(q[0], q[1], q[2], q[3]), -1);
            if (q[3] == 3) {
                Due.due("suits of a wrong one", x.suits(q[0], q[1], 5, 1, q[2]), -1);
                Due.due("suits of a wrong one", x.suits(5, 1, q[0], q[1], q[2]), -1);
            }
        }
        for (int from : new int[] {-1, 6, least, most}) {
            Due.due("first from " + from, x.first(5, 1, 2, 3, from), -2);
        }
        Due.due("first from the joint", x.first(5, 1, 2, 3, 5), 0);
        Due.due("first, the longest", x.first(60, 9, 12, 99, 68), 0);
    }
}
