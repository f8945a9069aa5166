/** Promises 6 to 10: INCHES, LINES, gaps, FEET. */
public final class GroundTest {
    private static final int LEAST = Integer.MIN_VALUE;
    private static final int MOST = Integer.MAX_VALUE;

    public static void main(String[] args) {
        inches();
        formulas();
        days();
        sets();
        gaps();
        feet();
        Due.finish();
    }

    private static void inches() {
        SlabWalk x = Due.on("street a joint 2 3 red shade 1 4 broken drain;street b joint 0 2 2 drain;");
        int[] joint = {0, 0, 0, 1, 1, 0, 1, 1, 0, 0, 0, 0};
        int[] nth = {0, 0, 0, 0, 0, 1, 1, 1, 2, 2, 2, 2};
        int[] inch = {0, 1, 2, 0, 1, 0, 0, 1, 0, 1, 2, 3};
        int[] wide = {3, 3, 3, 2, 2, 1, 2, 2, 4, 4, 4, 4};
        int[] words = {9, 9, 9, 0, 0, 0, 0, 0, 6, 6, 6, 6};
        int[][] due = {joint, nth, inch, wide, words};
        for (int what = 0; what < due.length; what++) {
            for (int i = 0; i < joint.length; i++) {
                Due.due("inch(0, " + i + ", " + what + ")", x.inch(0, i, what), due[what][i]);
            }
        }
        Due.due("length(0)", x.length(0), 12);
        Due.due("length(1)", x.length(1), 4);
        Due.due("inch(1, 1, 1)", x.inch(1, 1, 1), 0);
        Due.due("inch(1, 2, 1)", x.inch(1, 2, 1), 1);
        Due.due("inch(1, 2, 4)", x.inch(1, 2, 4), 4);
        for (int wrong : new int[] {-1, 2, 3, LEAST, MOST}) {
            Due.due("length(" + wrong + ")", x.length(wrong), -1);
            Due.due("inch(" + wrong + ", 0, 0)", x.inch(wrong, 0, 0), -1);
        }
        for (int wrong : new int[] {-1, 12, LEAST, MOST}) {
            Due.due("inch(0, " + wrong + ", 1)", x.inch(0, wrong, 1), -1);
        }
        for (int wrong : new int[] {-1, 5, LEAST, MOST}) {
            Due.due("inch(0, 0, " + wrong + ")", x.inch(0, 0, wrong), -1);
        }
    }

    /** The first INCH of one red SLAB of 7, on DAY 0, by a formula that is asked whether it is the number. */
    private static void is(String formula, long value) {
        String sign = value < 0 ? "0-" + -value : "" + value;
        SlabWalk x = Due.on("street a joint 1 7 red;rule r (" + formula + ")=" + sign + ";");
        Due.due(formula + " = " + value, x.line(0, 1, 0), 1);
    }

    private static void formulas() {
        is("1+2*3", 7);
        is("2*3+1", 7);
        is("9-3-2", 4);
        is("100/7/2", 7);
        is("100%7*3", 6);
        is("7/2*2", 6);
        is("(0-7)/2", -3);
        is("(0-7)%2", -1);
        is("7/0", 0);
        is("7%0", 0);
        is("5 and 3", 1);
        is("5 and 0", 0);
        is("0 or 7", 1);
        is("0 or 0", 0);
        is("(5)", 5);
        is("not 5", 0);
        is("not 0", 1);
        is("not not 5", 1);
        is("not 0+1", 0);
        is("not 1<0", 1);
        is("not 0 and 0", 0);
        is("1 or 1 and 0", 1);
        is("(1 or 1) and 0", 0);
        is("2<3", 1);
        is("3<3", 0);
        is("3>2", 1);
        is("3>3", 0);
        is("3=3", 1);
        is("1+1=2", 1);
        is("(2<3)+(3<4)", 2);
        is("0-1<0", 1);
        is("long", 7);
        is("red", 1);
        is("joint+broken+drain+shade+nth+inch+day", 0);
        is("9999", 9999);
        is("0000", 0);
        // Wrapping: 2 to the 31st is the least int, which divided by -1 stays what it is.
        is("4096*4096*128<0", 1);
        is("4096*4096*128-1>0", 1);
        is("4096*4096*256", 0);
        is("4096*4096*128/(0-1)<0", 1);
        is("4096*4096*128%(0-1)", 0);
        is("4096*4096*128=0-4096*4096*128", 1);
    }

    private static void days() {
        SlabWalk x = Due.on("street a joint 0 9;rule r inch=day;rule s day%2;");
        for (int day = 0; day <= 5; day++) {
            for (int i = 0; i < 9; i++) {
                Due.due("DAY " + day + " line(0, 1, " + i + ")", x.line(0, 1, i), i == day ? 1 : 0);
                Due.due("DAY " + day + " line(0, 2, " + i + ")", x.line(0, 2, i), day % 2);
            }
            x.day();
        }
        x.undo();
        x.undo();
        Due.due("line behind two undo()", x.line(0, 1, 4), 1);
        Due.due("line behind two undo()", x.line(0, 1, 6), 0);
    }

    private static void sets() {
        SlabWalk x = Due.on("street a joint 1 3 3 red 3 broken 3 drain 3 shade;rule r red;rule s shade;rule j joint;");
        int[] empty = {0, 0, 0, 1, 0, 0, 0, 1, 1, 1, 1, 1, 1, 1, 1, 1, 0, 0, 0};
        for (int i = 0; i < empty.length; i++) {
            boolean red = i >= 4 && i <= 6;
            boolean shade = i >= 16;
            boolean joint = i % 4 == 3;
            Due.due("line(0, 0, " + i + ")", x.line(0, 0, i), empty[i]);
            Due.due("line(0, 1, " + i + ")", x.line(0, 1, i), red ? 1 : 0);
            Due.due("line(0, 2, " + i + ")", x.line(0, 2, i), shade ? 1 : 0);
            Due.due("line(0, 3, " + i + ")", x.line(0, 3, i), red || shade ? 1 : 0);
            Due.due("line(0, 7, " + i + ")", x.line(0, 7, i), red || shade || joint ? 1 : 0);
        }
        for (int wrong : new int[] {-1, 8, 64, LEAST, MOST}) {
            Due.due("line(0, " + wrong + ", 0)", x.line(0, wrong, 0), -1);
            Due.due("gap(0, " + wrong + ", 0)", x.gap(0, wrong, 0), -1);
        }
        Due.due("line(1, 0, 0)", x.line(1, 0, 0), -1);
        Due.due("line(-1, 0, 0)", x.line(-1, 0, 0), -1);
        Due.due("line(0, 0, -1)", x.line(0, 0, -1), -1);
        Due.due("line(0, 0, 19)", x.line(0, 0, 19), -1);
    }

    private static void gaps() {
        SlabWalk x = Due.on("street a joint 1 3 3 5 5;street b joint 0 5 broken;street c joint 0 5;rule r 1;rule s red;");
        Due.due("gap(0, 0, 0)", x.gap(0, 0, 0), 5);
        Due.due("gap(0, 0, 1)", x.gap(0, 0, 1), 8);
        Due.due("gap(0, 0, 2)", x.gap(0, 0, 2), 3);
        Due.due("gap(1, 0, 0)", x.gap(1, 0, 0), 0);
        Due.due("gap(1, 0, 1)", x.gap(1, 0, 1), -1);
        Due.due("gap(1, 0, 2)", x.gap(1, 0, 2), 5);
        Due.due("gap(2, 0, 0)", x.gap(2, 0, 0), 5);
        Due.due("gap(2, 0, 1)", x.gap(2, 0, 1), 0);
        Due.due("gap(2, 0, 2)", x.gap(2, 0, 2), 0);
        Due.due("gap(2, 1, 0)", x.gap(2, 1, 0), 0);
        Due.due("gap(2, 2, 0)", x.gap(2, 2, 0), 5);
        Due.due("gap(0, 2, 0)", x.gap(0, 2, 0), 19);
        Due.due("gap(3, 0, 0)", x.gap(3, 0, 0), -1);
        Due.due("gap(-1, 0, 0)", x.gap(-1, 0, 0), -1);
        Due.due("gap(0, 0, 3)", x.gap(0, 0, 3), -1);
        Due.due("gap(0, 0, -1)", x.gap(0, 0, -1), -1);
    }

    private static void feet() {
        SlabWalk x = Due.on("street a joint 1 4 3 5 red;walker v foot 3 step 1 to 9;walker w foot 1 step 1 to 1;"
            + "walker g foot 12 step 1 to 2;street b joint 0 11;street c joint 0 12;rule r red;");
        int[] lawful = {1, 1, 0, 0, 0, 1, 0, 0, 0, 1, 1, 1, 0, 0};
        for (int i = 0; i < lawful.length; i++) {
            Due.due("foot(0, 0, 0, " + i + ")", x.foot(0, 0, 0, i), lawful[i]);
            Due.due("foot(1, 0, 0, " + i + ")", x.foot(1, 0, 0, i), i == 4 || i == 8 ? 0 : 1);
            Due.due("foot(0, 0, 1, " + i + ")", x.foot(0, 0, 1, i), i <= 6 ? 1 : 0);
        }
        Due.due("foot(0, 0, 0, 14)", x.foot(0, 0, 0, 14), -1);
        Due.due("foot(0, 0, 0, -1)", x.foot(0, 0, 0, -1), -1);
        Due.due("foot(0, 0, 0, most)", x.foot(0, 0, 0, MOST), -1);
        Due.due("foot(2, 1, 0, 0)", x.foot(2, 1, 0, 0), 0);
        Due.due("foot(2, 2, 0, 0)", x.foot(2, 2, 0, 0), 1);
        Due.due("foot(2, 2, 0, 1)", x.foot(2, 2, 0, 1), 0);
        Due.due("foot(3, 0, 0, 0)", x.foot(3, 0, 0, 0), -1);
        Due.due("foot(-1, 0, 0, 0)", x.foot(-1, 0, 0, 0), -1);
        Due.due("foot(0, 3, 0, 0)", x.foot(0, 3, 0, 0), -1);
        Due.due("foot(0, 0, 2, 0)", x.foot(0, 0, 2, 0), -1);
        x.rain();
        Due.due("foot(0, 0, 0, 2) in RAIN", x.foot(0, 0, 0, 2), 0);
    }
}
