/** Promises 11 to 15 and 19 to 23: WAYS, EVENS, HAND, BRAVE, WAGER, LEAVE. */
public final class WaysTest {
    private static final int LEAST = Integer.MIN_VALUE;
    private static final int MOST = Integer.MAX_VALUE;
    private static final String PLAIN = "street a joint 1 5 5 red 5 broken 5;walker w foot 2 step 3 to 5 leap 9;";

    public static void main(String[] args) {
        wrongOnes();
        fewest();
        longest();
        ways();
        evenest();
        even();
        evens();
        keeps();
        brave();
        wager();
        nothingIsDone();
        Due.finish();
    }

    private static void wrongOnes() {
        SlabWalk x = Due.on(PLAIN + "rule r red;");
        int[][] wrong = {{-1, 0, 0}, {1, 0, 0}, {LEAST, 0, 0}, {MOST, 0, 0}, {0, -1, 0}, {0, 1, 0}, {0, LEAST, 0}, {0, MOST, 0},
            {0, 0, -1}, {0, 0, 2}, {0, 0, 64}, {0, 0, LEAST}, {0, 0, MOST}};
        for (int[] q : wrong) {
            String told = q[0] + " " + q[1] + " " + q[2];
            x.fewest(0, 0, 0, 0);
            Due.due("fewest " + told, x.fewest(q[0], q[1], q[2], 0), -1);
            Due.lie("fewest " + told, x);
            x.fewest(0, 0, 0, 0);
            Due.due("evens " + told, x.evens(q[0], q[1], q[2]), -1);
            Due.lie("evens " + told, x);
            Due.due("ways " + told, x.ways(q[0], q[1], q[2], 4), -1);
            Due.due("evenest " + told, x.evenest(q[0], q[1], q[2], 0), -1);
            Due.due("even " + told, x.even(q[0], q[1], q[2], 0, 3), -1);
            Due.due("keeps " + told, x.keeps(q[0], q[1], q[2]), -1);
            Due.due("brave " + told, x.brave(q[0], q[1], q[2], 0, 1), -1);
            Due.due("boldest " + told, x.boldest(q[0], q[1], q[2], 0, 1), -1);
            Due.due("wager " + told, x.wager(q[0], q[1], q[2], 0), -1);
            Due.due("leave " + told, x.leave(q[0], q[1]), q[2] == 0 ? -1 : 2);
        }
    }

    private static void fewest() {
        SlabWalk x = Due.on(PLAIN);
        Due.due("fewest 0", x.fewest(0, 0, 0, 0), 4);
        Due.lie("fewest 0", x, 0, 6, 9, 18);
        Due.due("fewest 1", x.fewest(0, 0, 0, 1), 5);
        Due.lie("fewest 1", x, 0, 3, 6, 9, 18);
        Due.due("fewest 2", x.fewest(0, 0, 0, 2), 4);
        for (int what : new int[] {-1, 3, LEAST, MOST}) {
            x.fewest(0, 0, 0, 0);
            Due.due("fewest " + what, x.fewest(0, 0, 0, what), -1);
            Due.lie("fewest " + what, x);
        }
        // One FOOT is a WAY, if the first HEEL is the END.
        x = Due.on("street a joint 0 5;walker v foot 1 step 1 to 5;walker w foot 1 step 1 to 4;walker g foot 6 step 1 to 4;"
            + "walker f foot 5 step 9 to 9;rule r 1;");
        Due.due("fewest of one FOOT", x.fewest(0, 0, 0, 0), 1);
        Due.lie("fewest of one FOOT", x, 0);
        Due.due("fewest on the right FOOT", x.fewest(0, 0, 0, 2), -1);
        Due.due("fewest of one FOOT, later", x.fewest(1, 0, 0, 0), 1);
        Due.lie("fewest of one FOOT, later", x, 1);
        Due.due("fewest of two", x.fewest(1, 0, 0, 2), 2);
        Due.lie("fewest of two", x, 0, 1);
        Due.due("fewest of a FOOT too long", x.fewest(2, 0, 0, 0), -1);
        Due.due("fewest of a FOOT just so long", x.fewest(3, 0, 0, 0), 1);
        Due.due("fewest, all LINES", x.fewest(0, 0, 1, 0), -1);
        Due.lie("fewest, all LINES", x);
        // Two LEAPS one behind the other would do, but they may not be.
        x = Due.on("street a joint 9 1 1 1;walker w foot 1 step 1 to 1 leap 10;walker v foot 1 step 1 to 2 leap 10;");
        Due.due("LEAP behind a LEAP", x.fewest(0, 0, 0, 0), -1);
        Due.due("LEAP behind a LEAP", x.fewest(1, 0, 0, 0), -1);
        x = Due.on("street a joint 8 1 2 1;walker w foot 1 step 1 to 1 leap 9;");
        Due.due("a step between two LEAPS", x.fewest(0, 0, 0, 0), 4);
        Due.lie("a step between two LEAPS", x, 0, 9, 10, 19);
    }

    private static void longest() {
        SlabWalk x = Due.on("street a joint 0 60 60 60 60 60 60 40;walker w foot 1 step 1 to 1;hand 1 slack 0;walker v foot 1 step 1 to 60 leap 99;");
        Due.due("400 FEET", x.fewest(0, 0, 0, 0), 400);
        Due.due("400 lie", x.about(13), 400);
        for (int i = 0; i < 400; i++) {
            Due.due("lies(" + i + ")", x.lies(i), i);
        }
        Due.due("lies(400)", x.lies(400), -1);
        Due.due("400 FEET end on the right one", x.fewest(0, 0, 0, 1), -1);
        Due.due("400 FEET keep the hand", x.keeps(0, 0, 0), 0);
        Due.due("ways of 60 FEET", x.ways(0, 0, 0, 60), 0);
        // From 22 two LEAPS of 99 and two steps of 60 are just enough: 340 is the END.
        Due.due("fewest by LEAPS", x.fewest(1, 0, 0, 0), 5);
        Due.lie("fewest by LEAPS", x, 22, 82, 181, 241, 340);
    }

    private static void ways() {
        SlabWalk x = Due.on(PLAIN);
        long[] due = {0, 0, 0, 4, 1, 0};
        for (int n = 1; n <= due.length; n++) {
            Due.due("ways of " + n, x.ways(0, 0, 0, n), due[n - 1]);
        }
        for (int n : new int[] {0, -1, 61, LEAST, MOST}) {
            Due.due("ways of " + n, x.ways(0, 0, 0, n), -1);
        }
        Due.due("ways of 60", x.ways(0, 0, 0, 60), 0);
        // A walker who may go one or two on 60 bare INCHES: the END is 58 or 59.
        x = Due.on("street a joint 0 60;walker w foot 1 step 1 to 2;street b joint 0 60 60 60 60 60 60;walker v foot 1 step 1 to 12;"
            + "walker u foot 1 step 1 to 60;");
        // 29 steps of 2 reach 58 from 0, and 59 from 1; 28 of them and one of 1, anywhere, reach 58 from 1.
        Due.due("ways of 29", x.ways(0, 0, 0, 29), 0);
        Due.due("ways of 30", x.ways(0, 0, 0, 30), 1 + 1 + 29);
        Due.due("ways of 60", x.ways(0, 0, 0, 60), 0);
        // 58 steps of 1 reach 58 from 0; 57 of them and one of 2 reach 59, if that is the last.
        Due.due("ways of 59", x.ways(0, 0, 0, 59), 2);
        Due.due("ways, too many to tell", x.ways(1, 1, 0, 55), 1_000_000_000_000_000L);
        Due.due("ways of few FEET", x.ways(2, 1, 0, 1), 0);
        Due.due("ways, too many to tell", x.ways(2, 1, 0, 20), 1_000_000_000_000_000L);
    }

    private static void evenest() {
        SlabWalk x = Due.on("street a joint 2 8 8 8;walker v foot 3 step 4 to 6;street b joint 1 5 6 4 5;walker u foot 3 step 20 to 30;rule r 1;"
            + "street c joint 0 3 3 broken 3 2 broken 3 2 broken 3;");
        Due.due("evenest 0", x.evenest(0, 0, 0, 0), 0);
        Due.due("evenest 1", x.evenest(0, 0, 0, 1), 5);
        Due.due("evenest 2", x.evenest(0, 0, 0, 2), -1);
        Due.due("evenest -1", x.evenest(0, 0, 0, -1), -1);
        // On b LAWFUL are 0 to 2, 6 to 9, 13 and 14, 18 to 20: 2, 8, 14, 20.
        Due.due("evenest 0 on b", x.evenest(0, 1, 0, 0), 0);
        Due.due("evenest 1 on b", x.evenest(0, 1, 0, 1), 6);
        // On c LAWFUL are 0, 6, 11, 16; 11 is the END.
        Due.due("evenest 0 on c", x.evenest(0, 2, 0, 0), 1);
        Due.due("evenest 1 on c", x.evenest(0, 2, 0, 1), 5);
        Due.due("evenest, one FOOT alone", x.evenest(1, 0, 0, 0), -1);
        Due.due("evenest, one FOOT alone", x.evenest(1, 0, 0, 1), -1);
        Due.due("evenest, all LINES", x.evenest(0, 0, 1, 0), -1);
        // LEAPS don't count.
        x = Due.on("street a joint 3 3 3;walker w foot 3 step 1 to 5 leap 6;");
        Due.due("a WAY by a LEAP", x.fewest(0, 0, 0, 0), 2);
        Due.due("evenest without it", x.evenest(0, 0, 0, 0), -1);
    }

    private static void even() {
        SlabWalk x = Due.on("street a joint 2 8 8 8;walker v foot 3 step 4 to 6;");
        Due.due("even(0, 0, 0, 0, 5)", x.even(0, 0, 0, 0, 5), 6);
        Due.due("even(0, 0, 0, 5, 5)", x.even(0, 0, 0, 5, 5), 5);
        Due.due("even(0, 0, 0, 6, 5)", x.even(0, 0, 0, 6, 5), 0);
        Due.due("even(0, 0, 0, 25, 1)", x.even(0, 0, 0, 25, 1), 1);
        Due.due("even(0, 0, 0, 27, 1)", x.even(0, 0, 0, 27, 1), 0);
        Due.due("even(0, 0, 0, 0, 99)", x.even(0, 0, 0, 0, 99), 1);
        Due.due("even(0, 0, 0, 0, 1)", x.even(0, 0, 0, 0, 1), 6);
        for (int by : new int[] {0, -1, 100, LEAST, MOST}) {
            Due.due("even by " + by, x.even(0, 0, 0, 0, by), -1);
        }
        for (int i : new int[] {-1, 28, LEAST, MOST}) {
            Due.due("even from " + i, x.even(0, 0, 0, i, 5), -1);
        }
    }

    private static void evens() {
        SlabWalk x = Due.on("street a joint 0 9 9 9;street b joint 2 8 8 8;walker v foot 3 step 4 to 6;rule r 1;walker u foot 12 step 1 to 3;");
        Due.due("evens on a", x.evens(0, 0, 0), 3);
        Due.lie("evens on a", x, 4, 5, 6);
        Due.due("evens on b", x.evens(0, 1, 0), 1);
        Due.lie("evens on b", x, 5);
        Due.due("evens, all LINES", x.evens(0, 0, 1), 0);
        Due.lie("evens, all LINES", x);
        Due.due("evens of a long FOOT", x.evens(1, 0, 0), 3);
        Due.lie("evens of a long FOOT", x, 1, 2, 3);
        // Where the first HEEL is the END each length comes to it.
        x = Due.on("street a joint 0 5;walker v foot 1 step 3 to 9;");
        Due.due("evens of one FOOT", x.evens(0, 0, 0), 7);
    }

    private static void keeps() {
        Due.due("keeps", Due.on("street b joint 2 8 8 8;walker v foot 3 step 4 to 6;hand 5 slack 1;").keeps(0, 0, 0), 0);
        // The first HEEL is at TICK 0, where the hand is at 0.
        Due.due("TICK 0", Due.on("street b joint 1 1 9;walker v foot 1 step 4 to 6;hand 5 slack 0;").keeps(0, 0, 0), 0);
        Due.due("TICK 0", Due.on("street b joint 0 1 broken 9;walker v foot 1 step 4 to 6;hand 5 slack 0;").keeps(0, 0, 0), -1);
        Due.due("TICK 0", Due.on("street b joint 0 1 broken 9;walker v foot 1 step 4 to 6;hand 5 slack 1;").keeps(0, 0, 0), 0);
        // The slack ends where it is told to.
        Due.due("slack 3", Due.on("street b joint 0 30;walker v foot 1 step 6 to 6;hand 5 slack 3;").keeps(0, 0, 0), -1);
        Due.due("slack 4", Due.on("street b joint 0 30;walker v foot 1 step 6 to 6;hand 5 slack 4;").keeps(0, 0, 0), 0);
        // The hand gains two at each step: from 3 one LEAP makes good for it, from 2 there have to be two.
        Due.due("a LEAP", Due.on("street b joint 0 30;walker v foot 1 step 2 to 4 leap 8;hand 6 slack 3;").keeps(0, 0, 0), 1);
        Due.due("LEAPS", Due.on("street b joint 0 30;walker v foot 1 step 2 to 4 leap 8;hand 6 slack 2;").keeps(0, 0, 0), 2);
        Due.due("no slack", Due.on("street b joint 0 30;walker v foot 1 step 2 to 4 leap 8;hand 6 slack 0;").keeps(0, 0, 0), -1);
        Due.due("no hand told", Due.on("street b joint 0 60 60;walker v foot 1 step 20 to 40;").keeps(0, 0, 0), 0);
        Due.due("no hand told", Due.on("street b joint 0 60 60;walker v foot 1 step 1 to 16;").keeps(0, 0, 0), -1);
        // The longest WAY, and the one that is least bound.
        String bare = "street a joint 0 60 60 60 60 60 60 40;";
        Due.due("hand 1", Due.on(bare + "walker w foot 1 step 1 to 60 leap 99;hand 1 slack 99;").keeps(0, 0, 0), 0);
        Due.due("hand 99", Due.on(bare + "walker w foot 1 step 1 to 60 leap 99;hand 99 slack 99;").keeps(0, 0, 0), 1);
    }

    private static void brave() {
        SlabWalk x = Due.on(PLAIN + "slip 1 2 1;rule r 1;");
        Due.due("brave(0, 0, 0, 3, 1)", x.brave(0, 0, 0, 3, 1), 4);
        Due.due("boldest(0, 0, 0, 3, 1)", x.boldest(0, 0, 0, 3, 1), 4);
        Due.due("brave(0, 0, 0, 3, 2)", x.brave(0, 0, 0, 3, 2), 7);
        Due.due("boldest(0, 0, 0, 3, 2)", x.boldest(0, 0, 0, 3, 2), 3);
        Due.due("brave(0, 0, 0, 18, 8)", x.brave(0, 0, 0, 18, 8), 65536);
        Due.due("boldest(0, 0, 0, 18, 8)", x.boldest(0, 0, 0, 18, 8), 3);
        // The FOOT that he begins with counts.
        Due.due("brave from a LINE", x.brave(0, 0, 0, 11, 1), 0);
        Due.due("boldest from a LINE", x.boldest(0, 0, 0, 11, 1), 3);
        Due.due("brave on LINES alone", x.brave(0, 0, 1, 0, 1), 0);
        Due.due("brave from the last HEEL", x.brave(0, 0, 0, 21, 1), 4);
        for (int heel : new int[] {-1, 22, 23, LEAST, MOST}) {
            Due.due("brave from " + heel, x.brave(0, 0, 0, heel, 1), -1);
            Due.due("boldest from " + heel, x.boldest(0, 0, 0, heel, 1), -1);
        }
        for (int n : new int[] {-1, 0, 9, LEAST, MOST}) {
            Due.due("brave for " + n, x.brave(0, 0, 0, 0, n), -1);
            Due.due("boldest for " + n, x.boldest(0, 0, 0, 0, n), -1);
        }
        x = Due.on("street a joint 0 60;walker w foot 1 step 1 to 60;slip 9 9 9;");
        Due.due("27 to the 8", x.brave(0, 0, 0, 0, 8), 282_429_536_481L);
        x = Due.on("street a joint 0 3;walker w foot 1 step 1 to 1;slip 1 0 0;");
        Due.due("always short", x.brave(0, 0, 0, 0, 8), 1);
    }

    private static void wager() {
        SlabWalk x = Due.on(PLAIN + "rule r red or joint;rule n nth%2=1 and joint=0;");
        Due.due("wager 0", x.wager(0, 0, 0, 0), 1);
        Due.due("wager 1", x.wager(0, 0, 0, 1), 0);
        Due.due("wager 2", x.wager(0, 0, 0, 2), -1);
        Due.due("wager -1", x.wager(0, 0, 0, -1), -1);
        Due.due("wager from 1", x.wager(0, 0, 1, 0), 0);
        Due.due("wager from all", x.wager(0, 0, 3, 0), 0);
        Due.due("wager from all", x.wager(0, 0, 3, 1), -1);
        Due.due("leave", x.leave(0, 0), 2);
        // RULES that forbid nothing: the last one that is added wins.
        for (int rules = 0; rules <= 6; rules++) {
            StringBuilder text = new StringBuilder("street a joint 0 9;walker w foot 1 step 1 to 2;");
            for (int i = 0; i < rules; i++) {
                text.append("rule r").append((char) ('a' + i)).append(" 0;");
            }
            x = Due.on(text.toString());
            Due.due("wager on " + rules, x.wager(0, 0, 0, 0), rules % 2);
            Due.due("first on " + rules, x.wager(0, 0, 0, 1), rules % 2 == 1 ? 0 : -1);
            Due.due("leave on " + rules, x.leave(0, 0), 1 << rules);
            if (rules > 1) {
                Due.due("wager from 1 on " + rules, x.wager(0, 0, 1, 1), rules % 2 == 0 ? 1 : -1);
            }
        }
        // No WAY by the empty set, but by a RULE.
        x = Due.on("street a joint 0 9 broken;walker w foot 1 step 1 to 2;rule a 1;rule b red;");
        Due.due("wager from no WAY", x.wager(0, 0, 0, 1), 1);
        Due.due("leave", x.leave(0, 0), 1);
    }

    private static void nothingIsDone() {
        SlabWalk x = Due.on(PLAIN + "rule r red;slip 1 2 1;draw 5;");
        x.walk(0, 0, 2);
        x.force(0);
        x.rain();
        Due.due("RAIN does not count", x.fewest(0, 0, 0, 0), 4);
        Due.due("nor does FORCE", x.ways(0, 0, 0, 4), 4);
        x.evens(0, 0, 0);
        x.brave(0, 0, 0, 0, 3);
        x.wager(0, 0, 0, 0);
        Due.state("behind questions", x, 0, 0, 2, 1, 1, 0);
        Due.due("SEED", x.about(4), 5);
        Due.due("FORCE", x.about(5), 1);
        Due.due("RAIN", x.about(6), 1);
        Due.due("ACTS", x.about(7), 3);
    }
}
