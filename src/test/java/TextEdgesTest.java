import java.util.List;
import java.util.Random;

/** Terms and promises 1 to 5: each limit of a text from both sides, and the first FAULT of texts that are nearly good. */
public final class TextEdgesTest {
    private static final List<String> WORDS = Telling.words();
    private static final String SIGNS = ";()<>=+-*/%";

    public static void main(String[] args) {
        everyByte();
        tokensAsLongAsCanBe();
        everyNumber();
        everyStreetToItsLastInch();
        everyCount();
        unitsAndBrackets();
        firstOfTwoFaults();
        whatIsNotTold();
        toldBefore();
        toldAgain();
        cutTexts();
        changedTexts();
        textsByChance();
        theFullTape();
        Due.finish();
    }

    private static void is(String text, int fault, int place) {
        SlabWalk x = new SlabWalk();
        Due.feed(x, text);
        int streets = x.pavement();
        Due.due("pavement() of: " + text, streets == -1, fault != 0);
        Due.due("fault(0) of: " + text, x.fault(0), fault);
        Due.due("fault(1) of: " + text, x.fault(1), place);
    }

    private static void good(String text) {
        is(text, 0, -1);
    }

    private static void asTelling(String text) {
        Telling due = new Telling(text);
        SlabWalk x = new SlabWalk();
        Due.feed(x, text);
        Due.due("pavement() of: " + text, x.pavement(), due.fault != 0 ? -1 : due.streets);
        Due.due("fault(0) of: " + text, x.fault(0), due.fault);
        Due.due("fault(1) of: " + text, x.fault(1), due.place);
        boolean good = due.fault == 0;
        Due.due("STREETS of: " + text, x.about(0), good ? due.streets : 0);
        Due.due("WALKERS of: " + text, x.about(1), good ? due.walkers : 0);
        Due.due("RULES of: " + text, x.about(2), good ? due.rules : 0);
        Due.due("SEED of: " + text, x.about(4), good ? due.draw : 0);
        Due.due("TAPE behind: " + text, x.about(11), 0);
        Due.due("units of: " + text, x.about(12), good ? due.units : 0);
        Due.due("slips of: " + text, x.about(14), good ? due.slips : 1);
    }

    private static void everyByte() {
        for (int b = 0; b < 256; b++) {
            String sign = String.valueOf((char) b);
            boolean blank = b == 32 || b == 10;
            boolean letter = b >= 'a' && b <= 'z';
            boolean digit = b >= '0' && b <= '9';
            boolean isSign = SIGNS.indexOf(b) >= 0;
            boolean token = letter || digit || isSign;
            is(sign, blank ? 0 : token ? 2 : 1, blank ? -1 : 0);
            is("draw 5;" + sign, blank ? 0 : token ? 2 : 1, blank ? -1 : 7);
            is("draw" + sign + "5;", digit || blank ? 0 : letter ? 2 : isSign ? 2 : 1, digit || blank ? -1 : letter ? 0 : 4);
            if (b == ';') {
                is("draw 5" + sign + ";", 2, 7);
            } else {
                is("draw 5" + sign + ";", digit || blank ? 0 : letter ? 1 : isSign ? 2 : 1, digit || blank ? -1 : letter ? 5 : 6);
            }
            boolean joins = "+-*/%<>=".indexOf(b) >= 0;
            is("rule r 1" + sign + "1;", joins || digit ? 0 : letter ? 1 : isSign || blank ? 2 : 1,
                joins || digit ? -1 : letter ? 7 : blank ? 9 : b == ';' ? 9 : 8);
        }
    }

    private static void tokensAsLongAsCanBe() {
        good("street abcdefgh joint 0 5;");
        is("street abcdefghi joint 0 5;", 1, 7);
        good("rule abcdefgh 1;rule abcdefg 1;rule bcdefgh 1;");
        is("abcdefghi", 1, 0);
        is("abcdefgh", 2, 0);
        good("draw 0009;");
        is("draw 00009;", 1, 5);
        is("draw 99999;", 1, 5);
        is("draw 9999;", 4, 5);
        good("rule r 9999;");
        is("rule r 10000;", 1, 7);
        is("rule r 1+10000;", 1, 9);
        is("rule r 1or 1;", 1, 7);
        good("rule r 1 or 1;");
        good("rule r(1)or(1);");
        good("rule r1;");
        is("rule r 1 or1;", 0, -1);
        is("rule r 1 orjoint;", 2, 9);
        is("rule r 1\nor\n1\n;", 0, -1);
        is("rule r notjoint;", 2, 7);
        is("rule r not1;", 0, -1);
        is("street a joint0 5;", 0, -1);
        is("street a joint 0 5red;", 1, 17);
        is("street a joint 0 5 red5 red;", 0, -1);
        is("street a joint 0 5 redred;", 2, 19);
        is("walker a foot 1 step 1to 1;", 1, 21);
        is("walker a foot1step 1 to 1;", 1, 13);
        is("walker a foot1 step1 to1 leap2;", 0, -1);
        is("slip 1 1 1;", 0, -1);
        is("slip 111;", 4, 5);
        is("slip0 0 1;hand1 slack0;draw0;", 0, -1);
        for (String word : WORDS) {
            for (String sort : new String[] {"street", "walker", "rule"}) {
                is(sort + " " + word, 2, sort.length() + 1);
            }
            is("rule " + word + "x 1;", word.length() < 8 ? 0 : 1, word.length() < 8 ? -1 : 5);
        }
    }

    /** Each number that a text may have: those from least to most can be, and no other. */
    private static void range(String ahead, String behind, int least, int most) {
        for (int n = 0; n <= 9999; n = n == 130 ? 998 : n == 1001 ? 9999 : n + 1) {
            boolean can = n >= least && n <= most;
            is(ahead + n + behind, can ? 0 : 4, can ? -1 : ahead.length());
        }
    }

    private static void everyNumber() {
        range("street a joint ", " 5;", 0, 9);
        range("street a joint 0 ", ";", 1, 60);
        range("street a joint 9 60 red ", " shade;", 1, 60);
        range("walker a foot ", " step 1 to 1;", 1, 12);
        range("walker a foot 1 step ", " to 60;", 1, 60);
        for (int least : new int[] {1, 2, 31, 59, 60}) {
            range("walker a foot 1 step " + least + " to ", ";", least, 60);
            range("walker a foot 1 step 1 to " + least + " leap ", ";", least + 1, 99);
        }
        range("slip ", " 0 1;", 0, 9);
        range("slip 0 ", " 1;", 0, 9);
        range("slip 1 0 ", ";", 0, 9);
        range("slip 0 1 ", ";", 0, 9);
        range("slip 0 0 ", ";", 1, 9);
        range("hand ", " slack 0;", 1, 99);
        range("hand 1 slack ", ";", 0, 99);
        range("draw ", ";", 0, 999);
        range("rule r ", ";", 0, 9999);
    }

    private static void everyStreetToItsLastInch() {
        for (int joint = 0; joint <= 9; joint++) {
            for (int slab : new int[] {1, 2, 7, 37, 59, 60}) {
                StringBuilder text = new StringBuilder("street a joint " + joint);
                int inches = 0;
                while (inches + slab + (inches == 0 ? 0 : joint) <= 400 && text.length() < 1500) {
                    inches += slab + (inches == 0 ? 0 : joint);
                    text.append(' ').append(slab);
                }
                SlabWalk x = Due.on(text + ";");
                Due.due("INCHES of joint " + joint + " and SLABS " + slab, x.length(0), inches);
                Due.due("the last INCH", x.inch(0, inches - 1, 0), 0);
                Due.due("none behind it", x.inch(0, inches, 0), -1);
                // What still has room behind a joint, and an INCH more.
                int room = 400 - inches - joint;
                range(text + " ", ";", 1, Math.min(60, room));
            }
        }
        String full = "joint 8 60 60 60 60 60 60;";
        SlabWalk x = Due.on("street a " + full + "street b " + full + "street c " + full);
        for (int street = 0; street < 3; street++) {
            Due.due("each STREET has 400", x.length(street), 400);
        }
    }

    private static void everyCount() {
        String[] sorts = {"street s# joint 0 5;", "walker w# foot 1 step 1 to 1;", "rule r# 1;"};
        int[] most = {3, 4, 6};
        for (int sort = 0; sort < 3; sort++) {
            StringBuilder text = new StringBuilder();
            for (int i = 0; i < most[sort]; i++) {
                text.append(sorts[sort].replace('#', (char) ('a' + i)));
                SlabWalk x = Due.on(text.toString());
                Due.due("how many of: " + text, x.about(sort), i + 1);
            }
            // One too many is out of place at the line's first word, whatever comes behind it.
            is(text + sorts[sort].replace('#', 'z'), 2, text.length());
            is(text + sorts[sort].replace('#', 'a'), 2, text.length());
            is(text + sorts[sort].substring(0, 6) + " ?", 2, text.length());
            // The others are not touched by it.
            for (int other = 0; other < 3; other++) {
                if (other != sort) {
                    good(text + sorts[other].replace('#', 'a'));
                }
            }
            good(text + "slip 1 1 1;hand 5 slack 5;draw 5;");
        }
        for (String once : new String[] {"slip 0 0 1;", "hand 1 slack 0;", "draw 0;"}) {
            good(once);
            is(once + once, 2, once.length());
            is(once + "\n " + once, 2, once.length() + 2);
            is(once + once.substring(0, 4) + "?", 2, once.length());
        }
        // A NAME again: in its own sort alone.
        good("street a joint 0 5;walker a foot 1 step 1 to 1;rule a 1;");
        is("street a joint 0 5;street a", 3, 26);
        is("walker a foot 1 step 1 to 1;walker a", 3, 35);
        is("rule a 1;rule a", 3, 14);
        is("rule a 1;rule b 1;rule c 1;rule d 1;rule e 1;rule e 1;", 3, 50);
        // NAMES that are nearly alike are not.
        good("rule q 1;rule aq 1;rule aa 1;rule ca 1;rule qa 1;rule ac 1;");
        good("rule aaaaaaaa 1;rule aaaaaaa 1;rule baaaaaaa 1;rule aaaaaaab 1;rule qaaaaaaa 1;rule aaaaaaaq 1;");
        good("street ab joint 0 5;street ba joint 0 5;street b joint 0 5;walker ab foot 1 step 1 to 1;walker ba foot 1 step 1 to 1;");
        for (String word : new String[] {"red", "broken", "drain", "shade"}) {
            is("street a joint 0 5 " + word + " " + word + ";", 2, 20 + word.length());
            good("street a joint 0 5 " + word + " 5 " + word + ";");
            is("street a joint 0 5 red broken drain shade " + word, 2, 42);
        }
    }

    private static String sum(int units) {
        return "1" + "+1".repeat(units - 1);
    }

    private static void unitsAndBrackets() {
        good("rule r " + sum(30) + ";");
        is("rule r " + sum(31) + ";", 2, 67);
        is("rule r " + sum(30) + "+", 2, 67);
        is("rule r " + sum(30) + "+(1);", 2, 67);
        is("rule r " + sum(30) + " or not 1;", 2, 74);
        good("rule r (" + sum(14) + ")*(" + sum(14) + ");");
        is("rule r (" + sum(14) + ")*(" + sum(15) + ");", 2, 66);
        String two = "rule a " + sum(30) + ";rule b " + sum(30) + ";";
        good(two + "rule c " + sum(30) + ";");
        good(two + "rule c " + sum(29) + ";rule d 1;");
        is(two + "rule c " + sum(29) + ";rule d 1+1;", 2, 208);
        is(two + "rule c " + sum(30) + ";rule d not 1;", 2, 212);
        is(two + "rule c " + sum(30) + ";rule a", 3, 206);
        Due.due("90 units", Due.on(two + "rule c " + sum(30) + ";").about(12), 90);
        for (int depth = 1; depth <= 9; depth++) {
            for (int nots = 0; nots <= depth; nots++) {
                String ahead = "rule r " + "not ".repeat(nots) + "(".repeat(depth - nots);
                String text = ahead + "1" + ")".repeat(depth - nots) + ";";
                int place = nots >= 8 ? 7 + 4 * 7 : 7 + 4 * nots + 7 - nots;
                is(text, depth <= 7 ? 0 : 2, depth <= 7 ? -1 : place);
                ahead = "rule r " + "(".repeat(depth - nots) + "not ".repeat(nots);
                text = ahead + "1" + ")".repeat(depth - nots) + ";";
                place = depth - nots >= 8 ? 14 : 7 + depth - nots + 4 * (7 - depth + nots);
                is(text, depth <= 7 ? 0 : 2, depth <= 7 ? -1 : place);
            }
        }
        // What is closed, or behind a sign that ends the one, is not around what comes.
        good("rule r (((((((1)))))))+(((((((1)))))));");
        good("rule r not not not not not not not 1 and not not not not not not not 1;");
        good("rule r not not not 1 or (((((((1)))))));");
        is("rule r not (1)+(((((((1)))))));", 2, 21);
        is("rule r not 1<(((((((1)))))));", 2, 19);
    }

    private static void firstOfTwoFaults() {
        // By their places.
        is("street red joint 10", 2, 7);
        is("street a joint 10 ?", 4, 15);
        is("street a ? joint 10", 1, 9);
        is("draw 1000 draw", 4, 5);
        is("draw 1;draw 1000;", 2, 7);
        is("slip 0 0 0 0", 4, 9);
        is("slip 10 0 0;", 4, 5);
        is("rule a 1;rule a ?;", 3, 14);
        is("rule a 1;rule b 1;rule c 1;rule d 1;rule e 1;rule f 1;rule a ?;", 2, 54);
        // The least at one place: what is no TOKEN can't stand there, either.
        is("street a joint 0 12345;", 1, 17);
        is("street 5a", 1, 7);
        is("street 12345", 1, 7);
        is("rule r " + sum(30) + "+?;", 1, 67);
        is("rule r " + sum(30) + "+12345;", 1, 67);
        is("rule r (((((((?;", 1, 14);
        is("draw 5 ?", 1, 7);
        is("abcdefghijk", 1, 0);
        // A word a second time is no number that can't be, and a SLAB too many is no word.
        is("street a joint 0 60 60 60 60 60 60 40 red 1;", 4, 42);
        is("street a joint 0 60 60 60 60 60 60 40 red red 1;", 2, 42);
        is("street a joint 0 60 60 60 60 60 60 40 0;", 4, 38);
        // The end is the text's length, with its blanks.
        for (String text : new String[] {"street", "street a", "street a joint", "street a joint 0", "street a joint 0 5", "walker", "walker a",
            "walker a foot", "walker a foot 1", "walker a foot 1 step", "walker a foot 1 step 1", "walker a foot 1 step 1 to",
            "walker a foot 1 step 1 to 1", "walker a foot 1 step 1 to 1 leap", "walker a foot 1 step 1 to 1 leap 2", "rule", "rule a", "rule a 1",
            "rule a 1 or", "rule a not", "rule a (", "rule a (1", "rule a 1<", "slip", "slip 1", "slip 1 1", "slip 1 1 1", "slip 0 0", "hand",
            "hand 1", "hand 1 slack", "hand 1 slack 1", "draw", "draw 1"}) {
            is(text, 2, text.length());
            is(text + " \n  ", 2, text.length() + 4);
        }
    }

    private static void whatIsNotTold() {
        SlabWalk x = Due.on("street a joint 0 60 60;walker w foot 1 step 20 to 40 leap 41;");
        Due.due("slip 0 1 0", x.about(14), 1);
        Due.due("draw 0", x.about(4), 0);
        x.walk(0, 0, 0);
        Due.due("never a slip", x.go(20), 1);
        Due.due("never a slip", x.walker(2), 20);
        // Hand 30, slack 10: he who goes 20 and 40 by turns keeps it, and who goes 41 at most is not bound to leap.
        Due.due("keeps", x.keeps(0, 0, 0), 0);
        for (int step = 1; step <= 60; step++) {
            String walker = "street a joint 0 60 60 60 60 60 60 40;walker w foot 1 step " + step + " to " + step + ";";
            Due.due("hand 30 slack 10, step " + step, Due.on(walker).keeps(0, 0, 0), Due.on(walker + "hand 30 slack 10;").keeps(0, 0, 0));
        }
        // From 10 by 20 he comes to 30 and 50, which is the last HEEL that is near enough; by 19 to 48 at most.
        Due.due("slack 10", Due.on("street a joint 0 60;walker w foot 1 step 20 to 20;").keeps(0, 0, 0), 0);
        Due.due("slack 10", Due.on("street a joint 0 60;walker w foot 1 step 19 to 19;").keeps(0, 0, 0), -1);
    }

    /** Whatever was told before, good or not: what a text does not tell is as in an empty one. */
    private static void toldBefore() {
        String[] before = {"slip 7 8 9;hand 99 slack 99;draw 777;rule r 1+1;street a joint 1 5 red;walker w foot 1 step 1 to 2 leap 9;",
            "slip 7 8 9;hand 99 slack 0;draw 777;rule r 1+1;street a joint 1 5 red;walker w foot 1 step 1 to 2 leap 9;?", "slip 5 5"};
        for (String first : before) {
            for (String second : before) {
                SlabWalk x = new SlabWalk();
                for (int i = 0; i < 3; i++) {
                    Due.feed(x, first);
                    x.pavement();
                    Due.feed(x, second);
                    x.pavement();
                    Due.feed(x, "street a joint 0 60;walker v foot 1 step 20 to 20;walker w foot 1 step 19 to 19;");
                    Due.due("a text that is good", x.pavement(), 1);
                    int[] about = {1, 2, 0, 0, 0, 0, 0, 0, 0, 0, 0, 0, 0, 0, 1};
                    for (int what = 0; what < about.length; what++) {
                        Due.due("told before, about(" + what + ")", x.about(what), about[what]);
                    }
                    Due.due("not red", x.inch(0, 0, 4), 0);
                    Due.due("the hand, the slack", x.keeps(0, 0, 0), 0);
                    Due.due("the hand, the slack", x.keeps(1, 0, 0), -1);
                    Due.due("no RULE", x.line(0, 1, 0), -1);
                    x.walk(0, 0, 0);
                    Due.due("no slip", x.go(20) + x.walker(2), 21);
                    Due.due("no leap", x.go(21), -1);
                    Due.due("an empty text", x.pavement(), 0);
                    Due.due("its slips", x.about(14), 1);
                }
            }
        }
    }

    /** A text that was told can be told again, however often, and its RULES are read whole each time. */
    private static void toldAgain() {
        String once = "slip 1 8 2;hand 6 slack 4;draw 77;";
        SlabWalk x = new SlabWalk();
        for (int i = 0; i < 40; i++) {
            Due.feed(x, i % 3 == 2 ? once + once : once);
            Due.due("told again " + i, x.pavement(), i % 3 == 2 ? -1 : 0);
            Due.due("fault(0)", x.fault(0), i % 3 == 2 ? 2 : 0);
            Due.due("fault(1)", x.fault(1), i % 3 == 2 ? once.length() : -1);
            Due.due("slips", x.about(14), 11);
            Due.due("SEED", x.about(4), 77);
        }
        x = new SlabWalk();
        for (int i = 0; i < 20; i++) {
            String sum = "1" + "-1+1".repeat(14) + "-";
            Due.feed(x, "street a joint 0 5;rule a " + sum + "1;rule b " + sum + "0;rule c " + sum + "1;");
            Due.due("90 units again", x.pavement(), 1);
            Due.due("90 units again", x.about(12), 90);
            for (int rule = 0; rule < 3; rule++) {
                Due.due("RULE " + rule + " of 30 units again " + i, x.line(0, 1 << rule, 4), rule == 1 ? 1 : 0);
            }
        }
    }

    private static final String ALL = "street abc joint 2 5 red 60 broken drain 3;\nstreet b joint 0 7 shade;walker w foot 3 step 2 to 8 leap 11;"
        + "walker v foot 12 step 60 to 60;rule r not joint*2+3<(inch-4)%5 and red or (not(day/2=1) or nth>long);rule q 7;\n"
        + "slip 1 8 2;hand 6 slack 4 ;draw 77; rule s broken-drain+shade;";

    private static void cutTexts() {
        for (int size = 0; size <= ALL.length(); size++) {
            asTelling(ALL.substring(0, size));
            asTelling(ALL.substring(size));
        }
    }

    private static void changedTexts() {
        String bytes = ";()<>=+-*/% \nab019z?\u00ff\u0000A";
        for (int i = 0; i < ALL.length(); i++) {
            for (int b = 0; b < bytes.length(); b++) {
                asTelling(ALL.substring(0, i) + bytes.charAt(b) + ALL.substring(i + 1));
            }
            asTelling(ALL.substring(0, i) + ALL.substring(i + 1));
        }
    }

    private static String unit(Random random, int depth) {
        int sort = random.nextInt(depth > 0 ? 8 : 5);
        String[] own = {"joint", "red", "broken", "drain", "shade", "long", "nth", "inch", "day"};
        return sort < 2 ? "" + random.nextInt(random.nextBoolean() ? 10 : 10_000) : sort < 5 ? own[random.nextInt(9)]
            : "(" + one(random, depth - 1) + ")";
    }

    private static String one(Random random, int depth) {
        StringBuilder text = new StringBuilder();
        for (int i = random.nextInt(4); i >= 0; i--) {
            text.append(" not ".repeat(random.nextInt(3) == 0 ? random.nextInt(4) : 0)).append(unit(random, depth));
            for (int j = random.nextInt(3); j > 0; j--) {
                text.append("+-*/%".charAt(random.nextInt(5))).append(unit(random, depth));
            }
            if (random.nextInt(3) == 0) {
                text.append("<>=".charAt(random.nextInt(3))).append(unit(random, depth));
            }
            text.append(i == 0 ? "" : random.nextBoolean() ? " and " : " or ");
        }
        return text.toString();
    }

    private static String line(Random random) {
        String name = " " + (char) ('a' + random.nextInt(16)) + " ";
        switch (random.nextInt(10)) {
            case 0:
            case 1:
                StringBuilder street = new StringBuilder("street" + name + "joint " + random.nextInt(10));
                int slabs = random.nextInt(6) == 0 ? 20 : 6;
                for (int i = random.nextInt(slabs); i >= 0; i--) {
                    street.append(' ').append(1 + random.nextInt(60));
                    street.append(random.nextInt(3) == 0 ? " " + WORDS.get(random.nextInt(WORDS.size())) : random.nextBoolean() ? " red" : "");
                }
                return street.append(";").toString();
            case 2:
            case 3:
                int least = 1 + random.nextInt(61);
                int most = least - 1 + random.nextInt(9);
                return "walker" + name + "foot " + random.nextInt(14) + " step " + least + " to " + most
                    + (random.nextBoolean() ? " leap " + (most + random.nextInt(9)) : "") + ";";
            case 4: return "slip " + random.nextInt(3) + " " + random.nextInt(3) + " " + random.nextInt(3) + ";";
            case 5: return "hand " + random.nextInt(101) + " slack " + random.nextInt(101) + "\n;";
            case 6: return "draw " + random.nextInt(1100) + ";";
            default: return "rule" + name + one(random, random.nextInt(9)) + ";";
        }
    }

    private static void textsByChance() {
        int[] faults = new int[5];
        for (int seed = 0; seed < 3_000; seed++) {
            Random random = new Random(seed);
            StringBuilder text = new StringBuilder();
            // Lines that are good so far are gone on from, so that the limits are come to.
            for (int i = 0; i < 40; i++) {
                String more = line(random);
                boolean stays = new Telling(text + more).fault == 0 || random.nextInt(30) == 0;
                if (stays && text.length() + more.length() <= 1600) {
                    text.append(more);
                }
            }
            faults[new Telling(text.toString()).fault]++;
            asTelling(text.toString());
        }
        for (int fault = 0; fault < faults.length; fault++) {
            Due.due("texts of FAULT " + fault + ": " + faults[fault], fault == 1 || faults[fault] > 100, true);
        }
    }

    private static void theFullTape() {
        String text = "draw 7;" + " ".repeat(1585) + "draw";
        SlabWalk x = new SlabWalk();
        Due.feed(x, text + "    ");
        Due.due("1,600 bytes", x.about(11), 1600);
        Due.due("pavement()", x.pavement(), -1);
        Due.due("the last word's place", x.fault(1), 1592);
        Due.feed(x, " ".repeat(1593) + "draw 7;");
        Due.due("a text of 1,600 bytes", x.pavement(), 0);
        Due.due("its SEED", x.about(4), 7);
        Due.feed(x, " ".repeat(1594) + "draw 7");
        Due.due("a text of 1,600 bytes", x.pavement(), -1);
        Due.due("its end", x.fault(1), 1600);
        // The bytes behind the end are not in the text.
        Due.feed(x, "draw 8;draw 9;");
        Due.due("end(7)", x.end(7), 7);
        Due.due("pavement()", x.pavement(), 0);
        Due.due("its SEED", x.about(4), 8);
        // What is fed behind the end comes behind it.
        Due.feed(x, "draw 5?????");
        x.end(6);
        Due.feed(x, "6;");
        Due.due("pavement()", x.pavement(), 0);
        Due.due("its SEED", x.about(4), 56);
        Due.due("an empty text", x.pavement(), 0);
        Due.due("its SEED", x.about(4), 0);
    }
}
