/** Promises 1 to 5: the TAPE, the PAVEMENT, its FAULTS. */
public final class TextTest {
    public static void main(String[] args) {
        newObject();
        tape();
        places();
        tokens();
        streets();
        walkers();
        rules();
        oncelers();
        faultLeavesAll();
        goodOneStartsAnew();
        Due.finish();
    }

    private static void newObject() {
        SlabWalk x = new SlabWalk();
        int[] about = {0, 0, 0, 0, 0, 0, 0, 0, 0, 0, 0, 0, 0, 0, 1};
        for (int what = 0; what < about.length; what++) {
            Due.due("new: about(" + what + ")", x.about(what), about[what]);
        }
        Due.due("about(15)", x.about(15), -1);
        Due.due("about(-1)", x.about(-1), -1);
        Due.due("fault(0)", x.fault(0), 0);
        Due.due("fault(1)", x.fault(1), -1);
        Due.due("pavement() of nothing", x.pavement(), 0);
        Due.due("NONE", SlabWalk.NONE, -1);
    }

    private static void tape() {
        SlabWalk x = new SlabWalk();
        for (int i = 1; i <= 80; i++) {
            Due.due("feed " + i, x.feed(0x20202020, 0x20202020, 0x0a0a0a0a, 0x20202020, 0x20202020), 20 * i);
        }
        Due.due("feed into a full TAPE", x.feed(1, 2, 3, 4, 5), -1);
        Due.due("about(11)", x.about(11), 1600);
        Due.due("end(1601)", x.end(1601), -1);
        Due.due("end(-1)", x.end(-1), -1);
        Due.due("end(min)", x.end(Integer.MIN_VALUE), -1);
        Due.due("end(1600)", x.end(1600), 1600);
        Due.due("end(1581)", x.end(1581), 1581);
        Due.due("feed, one byte too many", x.feed(1, 2, 3, 4, 5), -1);
        Due.due("about(11) stays", x.about(11), 1581);
        Due.due("end(1580)", x.end(1580), 1580);
        Due.due("feed, just full", x.feed(0x20202020, 0x20202020, 0x20202020, 0x20202020, 0x24202020), 1600);
        Due.due("end(1596)", x.end(1596), 1596);
        Due.due("end(1597), cut off", x.end(1597), -1);
        Due.due("pavement() of blanks", x.pavement(), 0);
        Due.due("TAPE is empty then", x.about(11), 0);
        Due.due("end(0)", x.end(0), 0);
        Due.due("end(1)", x.end(1), -1);
        // The order of the bytes: "draw 123;" and blanks behind it.
        Due.due("feed", x.feed(0x64726177, 0x20313233, 0x3b202020, 0x20202020, 0x20202020), 20);
        Due.due("pavement()", x.pavement(), 0);
        Due.due("SEED", x.about(4), 123);
        // A byte above 127 at the end of each number.
        x.feed(0x202020ff, 0, 0, 0, 0);
        Due.due("pavement()", x.pavement(), -1);
        Due.due("fault(0)", x.fault(0), 1);
        Due.due("fault(1)", x.fault(1), 3);
        Due.due("fault(2)", x.fault(2), -1);
        Due.due("fault(-1)", x.fault(-1), -1);
        Due.due("TAPE is empty behind a FAULT, too", x.about(11), 0);
    }

    private static void bad(String text, int fault, int place) {
        SlabWalk x = new SlabWalk();
        Due.feed(x, text);
        Due.due("pavement() of: " + text, x.pavement(), -1);
        Due.due("fault(0) of: " + text, x.fault(0), fault);
        Due.due("fault(1) of: " + text, x.fault(1), place);
    }

    private static void good(String text, int streets, int walkers, int rules) {
        SlabWalk x = Due.on(text);
        Due.due("STREETS of: " + text, x.about(0), streets);
        Due.due("WALKERS of: " + text, x.about(1), walkers);
        Due.due("RULES of: " + text, x.about(2), rules);
        Due.due("fault(1) of: " + text, x.fault(1), -1);
    }

    private static void places() {
        bad("street", 2, 6);
        bad("street  \n", 2, 9);
        bad("street a joint 1 5 ?", 1, 19);
        bad("street a joint 1 5 rule ?", 2, 19);
        bad("street a joint 61 ?", 4, 15);
        bad("?", 1, 0);
        bad("  \n bear", 2, 4);
        bad("; street", 2, 0);
        bad("draw 1; 5", 2, 8);
        bad("draw 1;;", 2, 7);
    }

    private static void tokens() {
        bad("draw 12345;", 1, 5);
        bad("draw 5a;", 1, 5);
        bad("draw a5;", 2, 5);
        bad("street abcdefghi joint 1 5;", 1, 7);
        good("street abcdefgh joint 1 5;", 1, 0, 0);
        good("street a joint 0001 0060;", 1, 0, 0);
        good("street\na\njoint 1 5\nred\n;\n", 1, 0, 0);
        bad("street a joint 1 5red;", 1, 17);
        bad("street a joint 1\t5;", 1, 16);
        bad("street A joint 1 5;", 1, 7);
        bad("street a_b joint 1 5;", 1, 8);
        bad("rule r 1&2;", 1, 8);
        good("rule r 1+2*3;rule s(1)<(2);", 0, 0, 2);
        good("rule r not(1)and(2)or(3);", 0, 0, 1);
        bad("streeta joint 1 5;", 2, 0);
        good("rule a 1;rule aa 1;rule aaaaaaaa 1;rule aaaaaaab 1;rule baaaaaaa 1;rule zzzzzzzz 1;", 0, 0, 6);
        bad("rule zzzzzzzy 1;rule zzzzzzzz 1;rule zzzzzzzy 1;", 3, 37);
        for (String word : ("street joint walker foot step to leap rule slip hand slack draw red broken drain shade"
            + " or and not long nth inch day").split(" ")) {
            bad("rule " + word + " 1;", 2, 5);
        }
        for (String word : "pavement line slab e both one sum term unit name n rain text bed reds re cot fay brokens oor".split(" ")) {
            good("rule " + word + " 1;", 0, 0, 1);
        }
    }

    private static void streets() {
        good("street a joint 0 1;street b joint 9 60;walker a foot 1 step 1 to 1;rule a 1;street c joint 5 3 red 4;", 3, 1, 1);
        bad("street a joint 0 1;street b joint 0 1;street c joint 0 1;street d joint 0 1;", 2, 57);
        bad("street a joint 0 1;street a joint 0 1;", 3, 26);
        bad("street a 5", 2, 9);
        bad("street a joint 10 5;", 4, 15);
        bad("street a joint red", 2, 15);
        bad("street a joint 0;", 2, 16);
        bad("street a joint 0 0;", 4, 17);
        bad("street a joint 0 61;", 4, 17);
        bad("street a joint 0 5 red broken drain shade red;", 2, 42);
        bad("street a joint 0 5 shade shade;", 2, 25);
        good("street a joint 0 5 red broken drain shade 5 shade drain broken red;", 1, 0, 0);
        bad("street a joint 0 5 joint;", 2, 19);
        // 400 INCHES: six of 60 and joints of 8 are 400, of 9 are 405.
        good("street a joint 8 60 60 60 60 60 60;", 1, 0, 0);
        bad("street a joint 8 60 60 60 60 60 60 1;", 4, 35);
        bad("street a joint 9 60 60 60 60 60 60;", 4, 32);
        good("street a joint 9 60 60 60 60 60 55;", 1, 0, 0);
        bad("street a joint 9 60 60 60 60 60 56;", 4, 32);
        Due.due("400 INCHES", Due.on("street a joint 9 60 60 60 60 60 55;").length(0), 400);
        SlabWalk x = Due.on("street a joint 0 " + "1 ".repeat(400) + ";");
        Due.due("400 SLABS", x.length(0), 400);
        Due.due("the last SLAB", x.inch(0, 399, 1), 399);
        bad("street a joint 0 " + "1 ".repeat(401) + ";", 4, 817);
        good("street a joint 8 60 60 60 60 60 60;street b joint 8 60 60 60 60 60 60;street c joint 8 60 60 60 60 60 60;", 3, 0, 0);
        bad("street a joint 1 5", 2, 18);
        bad("street a joint 1 5 red", 2, 22);
    }

    private static void walkers() {
        good("walker a foot 1 step 1 to 60 leap 99;walker b foot 12 step 60 to 60 leap 61;walker c foot 1 step 1 to 1;"
            + "walker d foot 1 step 2 to 9;", 0, 4, 0);
        bad("walker a foot 1 step 1 to 1;walker b foot 1 step 1 to 1;walker c foot 1 step 1 to 1;"
            + "walker d foot 1 step 1 to 1;walker e", 2, 112);
        bad("walker a foot 0", 4, 14);
        bad("walker a foot 13", 4, 14);
        bad("walker a foot 1 step 0", 4, 21);
        bad("walker a foot 1 step 61", 4, 21);
        bad("walker a foot 1 step 5 to 4", 4, 26);
        bad("walker a foot 1 step 5 to 61", 4, 26);
        bad("walker a foot 1 step 5 to 9 leap 9;", 4, 33);
        bad("walker a foot 1 step 5 to 9 leap 100;", 4, 33);
        bad("walker a foot 1 step 5 to 9 leap;", 2, 32);
        bad("walker a foot 1 step 5 to 9 leap 10 leap 11;", 2, 36);
        bad("walker a foot 1 step 5 9", 2, 23);
        bad("walker a foot 1 to 9", 2, 16);
        bad("walker a step", 2, 9);
        bad("walker walker", 2, 7);
        bad("walker a foot 1 step 1 to 1;walker a", 3, 35);
    }

    private static String sum(int units) {
        return "1" + "+1".repeat(units - 1);
    }

    private static void rules() {
        good("rule a joint;rule b red;rule c broken and drain;rule d shade or long;rule e nth;rule f inch*day;", 0, 0, 6);
        bad("rule a 1;rule b 1;rule c 1;rule d 1;rule e 1;rule f 1;rule g 1;", 2, 54);
        bad("rule a 1;rule a 1;", 3, 14);
        bad("rule a;", 2, 6);
        bad("rule a 1 2;", 2, 9);
        bad("rule a 1<2<3;", 2, 10);
        good("rule a (1<2)<3;", 0, 0, 1);
        bad("rule a 1+not 2;", 2, 9);
        bad("rule a -1;", 2, 7);
        bad("rule a (1;", 2, 9);
        bad("rule a 1);", 2, 8);
        bad("rule a ();", 2, 8);
        bad("rule a 1 or;", 2, 11);
        bad("rule a 1 and", 2, 12);
        bad("rule a not;", 2, 10);
        bad("rule a b;", 2, 7);
        bad("rule a street;", 2, 7);
        bad("rule a 1", 2, 8);
        good("rule a " + sum(30) + ";", 0, 0, 1);
        bad("rule a " + sum(31) + ";", 2, 67);
        good("rule a (" + sum(29) + ");", 0, 0, 1);
        bad("rule a (" + sum(30) + ");", 2, 66);
        good("rule a " + sum(30) + ";rule b " + sum(30) + ";rule c " + sum(30) + ";", 0, 0, 3);
        Due.due("90 units", Due.on("rule a " + sum(30) + ";rule b " + sum(30) + ";rule c " + sum(30) + ";").about(12), 90);
        bad("rule a " + sum(30) + ";rule b " + sum(30) + ";rule c " + sum(30) + ";rule d 1;", 2, 208);
        bad("rule a " + sum(30) + ";rule b " + sum(30) + ";rule c " + sum(29) + ";rule d (1);", 2, 207);
        Due.due("units", Due.on("rule a ((1)+2)*joint;rule b not day;").about(12), 6);
        good("rule a (((((((1)))))));", 0, 0, 1);
        bad("rule a ((((((((1))))))));", 2, 14);
        good("rule a not not not not not not not 1;", 0, 0, 1);
        bad("rule a not not not not not not not not 1;", 2, 35);
        good("rule a not(not(not(not 1)));", 0, 0, 1);
        bad("rule a not(not(not(not(1))));", 2, 22);
        bad("rule a not(not(not((not 1))));", 2, 20);
        good("rule a (((((((1))))))) or (((((((2)))))));", 0, 0, 1);
        bad("rule a (((((((not 1)))))));", 2, 14);
        bad("rule a " + "1+".repeat(29) + "1+?;", 1, 67);
    }

    private static void oncelers() {
        good("slip 0 0 1;hand 1 slack 0;draw 0;", 0, 0, 0);
        good("slip 9 9 9;hand 99 slack 99;draw 999;", 0, 0, 0);
        Due.due("all slips", Due.on("slip 9 8 7;").about(14), 24);
        bad("slip 0 0 0;", 4, 9);
        bad("slip 10 0 0;", 4, 5);
        bad("slip 0 10 0;", 4, 7);
        bad("slip 1 0 10;", 4, 9);
        bad("slip 1 1;", 2, 8);
        bad("slip 1 1 1 1;", 2, 11);
        bad("slip 1 1 1;slip 1 1 1;", 2, 11);
        bad("hand 0 slack 1;", 4, 5);
        bad("hand 100 slack 1;", 4, 5);
        bad("hand 1 slack 100;", 4, 13);
        bad("hand 1 1;", 2, 7);
        bad("hand 1 slack 1;hand 1 slack 1;", 2, 15);
        bad("draw 1000;", 4, 5);
        bad("draw 1;draw 1;", 2, 7);
        bad("draw;", 2, 4);
    }

    private static final String STREET = "street a joint 1 5 5;walker w foot 1 step 1 to 9;rule r red;draw 7;";

    private static SlabWalk used() {
        SlabWalk x = Due.on(STREET);
        x.walk(0, 0, 1);
        x.force(0);
        x.rain();
        x.day();
        x.undo();
        x.later(5);
        x.sight(0, 0, 2);
        x.fewest(0, 0, 0, 0);
        x.image(1);
        return x;
    }

    private static void faultLeavesAll() {
        SlabWalk x = used();
        int[] before = new int[15];
        for (int what = 0; what < before.length; what++) {
            before[what] = x.about(what);
        }
        Due.feed(x, "street b joint 0 9;rule q ?");
        Due.due("pavement()", x.pavement(), -1);
        for (int what = 0; what < before.length; what++) {
            Due.due("behind a FAULT about(" + what + ")", x.about(what), before[what]);
        }
        Due.due("length(0)", x.length(0), 11);
        Due.due("walker(2)", x.walker(2), 1);
        Due.due("redo()", x.redo(), true);
        Due.due("back(1)", x.back(1), 0);
        Due.due("line(0, 1, 0)", x.line(0, 1, 0), 0);
    }

    private static void goodOneStartsAnew() {
        SlabWalk x = used();
        Due.feed(x, "street b joint 0 9;");
        Due.due("pavement()", x.pavement(), 1);
        int[] about = {1, 0, 0, 0, 0, 0, 0, 0, 0, 0, 5, 0, 0, 0, 1};
        for (int what = 0; what < about.length; what++) {
            Due.due("behind a new PAVEMENT about(" + what + ")", x.about(what), about[what]);
        }
        Due.due("nobody walks", x.walker(0), -1);
        Due.due("undo()", x.undo(), false);
        Due.due("redo()", x.redo(), false);
        Due.due("back(1)", x.back(1), -1);
        Due.due("lies(0)", x.lies(0), -1);
        Due.due("length(0)", x.length(0), 9);
        Due.feed(x, STREET);
        Due.due("pavement()", x.pavement(), 1);
        Due.due("SEED", x.about(4), 7);
        Due.due("the rule of the new one", x.line(0, 1, 5), 0);
    }
}
