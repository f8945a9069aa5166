import java.lang.management.ManagementFactory;
import java.lang.reflect.Array;
import java.lang.reflect.Field;
import java.lang.reflect.Modifier;
import java.util.IdentityHashMap;
import java.util.Random;

/** No call throws, for any arguments in any state; no call makes anything; what a new object has is small. */
public final class RoomTest {
    private static final int METHODS = 41;
    private static final int[] ODD = {Integer.MIN_VALUE, Integer.MAX_VALUE, -1, -2, 63, 64, 99, 100, 399, 400, 401, 1000, 1001, 1600};
    private static final String FULL = "street a joint 0 60 60 60 60 60 60 40 red;street b joint 8 60 60 60 60 60 60;"
        + "street c joint 9 60 60 broken 60 shade 60 60 drain 55;walker a foot 1 step 1 to 60 leap 99;walker b foot 12 step 1 to 2 leap 99;"
        + "walker c foot 1 step 1 to 1 leap 2;walker d foot 3 step 60 to 60 leap 99;hand 1 slack 99;slip 9 9 9;draw 999;"
        + "rule a not(not(not(1+1+1+1+1+1+1+1+1+1)));rule b inch%7=day%5 and nth>1;rule c red or shade and inch<day;"
        + "rule d (joint*joint-1)/(inch-3)%(nth-2)=0;rule e long>nth*30;rule f inch*inch*inch*inch*inch*inch*inch%97=5;";

    public static void main(String[] args) {
        anyTexts();
        anyCalls();
        makesNothing();
        isSmall();
        Due.finish();
    }

    private static long call(SlabWalk x, int which, int[] a) {
        switch (which) {
            case 0: return x.feed(a[0], a[1], a[2], a[3], a[4]);
            case 1: return x.end(a[0]);
            case 2: return x.pavement();
            case 3: return x.fault(a[0]);
            case 4: return x.inch(a[0], a[1], a[2]);
            case 5: return x.length(a[0]);
            case 6: return x.line(a[0], a[1], a[2]);
            case 7: return x.gap(a[0], a[1], a[2]);
            case 8: return x.foot(a[0], a[1], a[2], a[3]);
            case 9: return x.fewest(a[0], a[1], a[2], a[3]);
            case 10: return x.ways(a[0], a[1], a[2], a[3]);
            case 11: return x.evenest(a[0], a[1], a[2], a[3]);
            case 12: return x.even(a[0], a[1], a[2], a[3], a[4]);
            case 13: return x.evens(a[0], a[1], a[2]);
            case 14: return x.first(a[0], a[1], a[2], a[3], a[4]);
            case 15: return x.begin(a[0], a[1], a[2], a[3]);
            case 16: return x.suits(a[0], a[1], a[2], a[3], a[4]);
            case 17: return x.keeps(a[0], a[1], a[2]);
            case 18: return x.brave(a[0], a[1], a[2], a[3], a[4]);
            case 19: return x.boldest(a[0], a[1], a[2], a[3], a[4]);
            case 20: return x.wager(a[0], a[1], a[2], a[3]);
            case 21: return x.leave(a[0], a[1]);
            case 22: return x.walk(a[0], a[1], a[2]);
            case 23: return x.go(a[0]);
            case 24: return x.force(a[0]);
            case 25: return x.rain() ? 1 : 0;
            case 26: return x.day();
            case 27: return x.undo() ? 1 : 0;
            case 28: return x.redo() ? 1 : 0;
            case 29: return x.walker(a[0]);
            case 30: return x.lies(a[0]);
            case 31: return x.sight(a[0], a[1], a[2]);
            case 32: return x.untell(a[0]) ? 1 : 0;
            case 33: return x.later(a[0]);
            case 34: return x.fits(a[0]);
            case 35: return x.chance(a[0], a[1], a[2]);
            case 36: return x.image(a[0]);
            case 37: return x.back(a[0]);
            default: return x.about(a[0]);
        }
    }

    private static void anyTexts() {
        String signs = ";()<>=+-*/% \n09azA~\u00ff";
        String[] words = FULL.split("(?<=[ ;(])|(?=[ ;)])");
        for (int seed = 0; seed < 4000; seed++) {
            Random random = new Random(seed);
            StringBuilder text = new StringBuilder();
            if (seed % 2 == 0) {
                text.append(FULL, 0, random.nextInt(FULL.length() + 1));
                for (int i = random.nextInt(3); i > 0 && text.length() > 0; i--) {
                    text.setCharAt(random.nextInt(text.length()), signs.charAt(random.nextInt(signs.length())));
                }
            } else {
                for (int i = random.nextInt(60); i > 0; i--) {
                    text.append(words[random.nextInt(words.length)]);
                }
            }
            SlabWalk x = new SlabWalk();
            Due.feed(x, text.toString());
            int size = x.about(11);
            int streets = x.pavement();
            Due.due("a FAULT or none: " + text, streets == -1, x.fault(0) > 0);
            Due.due("its place: " + text, x.fault(1) >= (streets == -1 ? 0 : -1) && x.fault(1) <= size, true);
        }
    }

    private static void anyCalls() {
        for (int seed = 0; seed < 300; seed++) {
            Random random = new Random(seed);
            SlabWalk x = seed % 3 == 0 ? new SlabWalk() : Due.on(seed % 3 == 1 ? FULL : new Naive(random, 40).text.toString());
            int[] a = new int[5];
            for (int i = 0; i < 512; i++) {
                for (int j = 0; j < a.length; j++) {
                    int sort = random.nextInt(12);
                    a[j] = sort == 0 ? ODD[random.nextInt(ODD.length)] : sort == 1 ? random.nextInt() : sort == 2 ? random.nextInt(400)
                        : sort < 6 ? random.nextInt(12) : random.nextInt(3);
                }
                // A new PAVEMENT is seldom, so that something is there to be asked.
                int which = random.nextInt(METHODS);
                call(x, which == 2 && random.nextInt(8) > 0 ? 9 : which, a);
            }
        }
    }

    private static void makesNothing() {
        com.sun.management.ThreadMXBean threads = (com.sun.management.ThreadMXBean) ManagementFactory.getThreadMXBean();
        SlabWalk x = Due.on(FULL);
        int[][] rows = new int[3000][];
        Random random = new Random(5);
        for (int i = 0; i < rows.length; i++) {
            rows[i] = new int[] {random.nextInt(4), random.nextInt(3), random.nextInt(64), random.nextInt(3), random.nextInt(9)};
        }
        long id = Thread.currentThread().getId();
        long before = threads.getThreadAllocatedBytes(id);
        for (int i = 0; i < rows.length; i++) {
            int which = i % METHODS;
            call(x, which == 2 ? 9 : which, rows[i]);
        }
        long made = threads.getThreadAllocatedBytes(id) - before;
        System.out.println(made + " bytes made by " + rows.length + " calls");
        Due.due("calls make nothing", made < 20_000, true);
        before = threads.getThreadAllocatedBytes(id);
        for (int i = 0; i < 500; i++) {
            x.pavement();
        }
        Due.due("pavement() makes nothing", threads.getThreadAllocatedBytes(id) - before < 20_000, true);
    }

    private static void isSmall() {
        long[] count = new long[2];
        count(new SlabWalk(), new IdentityHashMap<>(), count);
        System.out.println(count[0] + " objects, " + count[1] + " fields and elements in a new one");
        Due.due("objects", count[0] <= 100, true);
        Due.due("fields and elements", count[1] <= 20_000, true);
    }

    private static void count(Object what, IdentityHashMap<Object, Object> seen, long[] count) {
        if (what == null || what instanceof String || seen.put(what, what) != null) {
            return;
        }
        count[0]++;
        if (what.getClass().isArray()) {
            count[1] += Array.getLength(what);
            for (int i = 0; i < Array.getLength(what) && !what.getClass().getComponentType().isPrimitive(); i++) {
                count(Array.get(what, i), seen, count);
            }
            return;
        }
        for (Field field : what.getClass().getDeclaredFields()) {
            if (Modifier.isStatic(field.getModifiers())) {
                continue;
            }
            count[1]++;
            field.setAccessible(true);
            try {
                if (!field.getType().isPrimitive()) {
                    count(field.get(what), seen, count);
                }
            } catch (IllegalAccessException e) {
                Due.due("a field that can't be seen", 1, 0);
            }
        }
    }
}
