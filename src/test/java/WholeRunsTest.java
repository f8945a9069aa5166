import java.lang.reflect.InvocationTargetException;
import java.lang.reflect.Method;
import java.util.ArrayList;
import java.util.List;
import java.util.Map;
import java.util.Random;
import java.util.TreeMap;

/** Promises 1 to 40 in runs of 512 calls made by chance, of all sorts mixed, each answer against the model's. */
public final class WholeRunsTest {
    private static final int RUNS = 260;
    private static final int CALLS = 512;
    private static final int[] ODD = {Integer.MIN_VALUE, Integer.MAX_VALUE, -1, -2, 0, 1, 20, 60, 61, 63, 64, 99, 100, 400, 1000, 1001};
    private static final String[] NAMES = {"a", "b", "s", "w", "abcdefgh", "abcdefgi", "x", "slab"};

    /** Each call with what its numbers stand for, a letter each; those that stand here often are made often. */
    private static final String[] ASKED = {"end n", "fault t", "inch s x t", "length s", "line s r x", "gap s r t", "foot w s r x",
        "fewest w s r t", "fewest w s r t", "ways w s r c", "evenest w s r t", "even w s r x b", "evens w s r", "first u j f b y",
        "begin u j f b", "suits u j u j f", "keeps w s r", "brave w s r x q", "boldest w s r x q", "wager w s r t", "leave w s", "lies i",
        "lies i", "fits k", "chance R t k", "chance R t k", "walker t", "about a"};
    private static final String[] DONE = {"walk w s h", "walk w s h", "go g", "go g", "go g", "go g", "force R", "rain", "day", "undo",
        "undo", "redo", "redo", "sight w s x", "sight w s x", "untell S", "later l", "image B", "back B"};

    private final Random random;
    private final Model due = new Model();
    private final SlabWalk got = new SlabWalk();
    private final List<String> run = new ArrayList<>();
    private boolean asDue = true;

    private static final Map<String, Integer> ANSWERED = new TreeMap<>();
    private static final Map<Long, Integer> FAULTS = new TreeMap<>();

    private WholeRunsTest(int seed) {
        random = new Random(seed);
    }

    public static void main(String[] args) {
        int runs = args.length > 0 ? Integer.parseInt(args[0]) : RUNS;
        for (int seed = 0; seed < runs; seed++) {
            new WholeRunsTest(seed).make();
        }
        System.out.println("answers above 0: " + ANSWERED);
        System.out.println("pavements by FAULT: " + FAULTS);
        // A run in which a sort of call is never answered would compare nothing.
        Due.due("sorts of calls that were answered", ANSWERED.size(), 39);
        Due.due("sorts of FAULTS, and none", FAULTS.size(), 5);
        Due.finish();
    }

    private void make() {
        if (random.nextInt(8) > 0) {
            tell();
        }
        boolean longDays = random.nextInt(10) == 0;
        while (asDue && run.size() < CALLS) {
            int sort = random.nextInt(200);
            if (sort == 0 && run.size() < CALLS - 85) {
                tell();
            } else if (sort < 110) {
                call(DONE[random.nextInt(DONE.length)].split(" "));
            } else if (sort == 198 && longDays) {
                repeat(random.nextBoolean() ? "day" : "undo");
            } else if (sort == 199) {
                compare("feed", random.nextInt(), 0x20202020, random.nextInt(), 0x3b0a3b20, 7);
            } else {
                call(ASKED[random.nextInt(ASKED.length)].split(" "));
            }
        }
    }

    private void repeat(String name) {
        for (int i = random.nextInt(60); asDue && i > 0 && run.size() < CALLS; i--) {
            compare(name);
        }
    }

    private void call(String[] told) {
        int[] numbers = new int[told.length - 1];
        for (int i = 0; i < numbers.length; i++) {
            numbers[i] = number(told[i + 1].charAt(0));
        }
        compare(told[0], numbers);
    }

    private int upTo(int most) {
        return random.nextInt(Math.max(0, most) + 1);
    }

    private int number(char sort) {
        if (random.nextInt(60) == 0) {
            return random.nextInt(4) == 0 ? random.nextInt() : ODD[random.nextInt(ODD.length)];
        }
        Told told = due.told();
        int edge = random.nextInt(40) == 0 ? 1 : 0;
        switch (sort) {
            case 'n': return upTo(due.about(11)) + edge;
            case 's': return upTo(told.streets.size() - 1 + edge);
            case 'w': return upTo(told.walkers.size() - 1 + edge);
            case 'r': return random.nextInt(3) == 0 ? 0 : upTo((1 << told.rules.size()) - 1 + edge);
            case 'R': return upTo(told.rules.size() - 1 + edge);
            case 'x': return random.nextInt(3) == 0 ? upTo(12) : upTo(told.streets.isEmpty() ? 5 : told.streets.get(0).size() + 2 * edge - 1);
            case 'h': return upTo(told.walkers.isEmpty() ? 5 : told.walkers.get(0).most());
            case 'g': return going();
            case 't': return upTo(random.nextInt(4) == 0 ? 6 : 1);
            case 'c': return 1 + upTo(random.nextBoolean() ? 12 : 59) - edge;
            case 'b': return 1 + upTo(random.nextBoolean() ? 12 : 98) + edge;
            case 'u': return 1 + upTo(random.nextBoolean() ? 12 : 59) + edge;
            case 'j': return upTo(random.nextBoolean() ? 3 : 9) + edge;
            case 'f': return 1 + upTo(random.nextBoolean() ? 2 : 11) + edge;
            case 'y': return upTo(random.nextBoolean() ? 8 : 70);
            case 'q': return 1 + upTo(7) - edge;
            case 'i': return upTo(due.about(13)) - edge;
            case 'k': return upTo(due.about(10) + 1) - edge;
            case 'S': return upTo(due.about(9)) - edge;
            case 'l': return edge == 1 ? upTo(1001) : upTo(3);
            case 'B': return upTo(2) - edge;
            default: return upTo(14 + edge);
        }
    }

    /** Most steps are those of who walks. */
    private int going() {
        int walker = due.walker(0);
        if (walker == -1 || random.nextInt(8) == 0) {
            return upTo(12);
        }
        Told.Walker who = due.told().walkers.get(walker);
        int farthest = random.nextInt(3) == 0 ? who.leap() : who.most();
        return who.least() + upTo(farthest - who.least()) + (random.nextInt(20) == 0 ? 1 : 0);
    }

    private void tell() {
        if (random.nextInt(3) > 0) {
            compare("end", 0);
        }
        String text = new Texts(random).text();
        int before = due.about(11);
        for (int from = 0; asDue && from < text.length(); from += 20) {
            int[] numbers = new int[5];
            for (int i = 0; i < 20; i++) {
                numbers[i / 4] = numbers[i / 4] << 8 | (from + i < text.length() ? text.charAt(from + i) : 0);
            }
            compare("feed", numbers);
        }
        compare("end", Math.min(before + text.length(), due.about(11)));
        compare("pavement");
        compare("fault", 0);
        compare("fault", 1);
    }

    private void compare(String name, int... numbers) {
        if (!asDue) {
            return;
        }
        long want = answer(due, Model.class, name, numbers);
        long answer = answer(got, SlabWalk.class, name, numbers);
        StringBuilder told = new StringBuilder(name).append('(');
        for (int i = 0; i < numbers.length; i++) {
            told.append(i == 0 ? "" : ", ").append(numbers[i]);
        }
        run.add(told.append(')').toString());
        if (answer != want) {
            asDue = false;
            run.forEach(System.out::println);
        }
        Due.due(told.toString(), answer, want);
        if (want > 0) {
            ANSWERED.merge(name, 1, Integer::sum);
        }
        if (name.equals("fault") && numbers[0] == 0) {
            FAULTS.merge(want, 1, Integer::sum);
        }
    }

    private static long answer(Object on, Class<?> type, String name, int[] numbers) {
        Class<?>[] types = new Class<?>[numbers.length];
        Object[] boxed = new Object[numbers.length];
        for (int i = 0; i < numbers.length; i++) {
            types[i] = int.class;
            boxed[i] = numbers[i];
        }
        try {
            Method method = type.getDeclaredMethod(name, types);
            Object answer = method.invoke(on, boxed);
            return answer instanceof Boolean holds ? (holds ? 1 : 0) : ((Number) answer).longValue();
        } catch (NoSuchMethodException | IllegalAccessException | InvocationTargetException e) {
            throw new IllegalStateException(name, e);
        }
    }

    /** Texts by the grammar, here and there with what it does not have. */
    private static final class Texts {
        private static final String[] UNITS = {"joint", "red", "broken", "drain", "shade", "long", "nth", "inch", "day"};
        private final Random random;
        private final StringBuilder text = new StringBuilder();
        private final boolean wrong;
        private final boolean deep;

        Texts(Random random) {
            this.random = random;
            this.wrong = random.nextInt(5) == 0;
            this.deep = random.nextInt(5) == 0;
        }

        String text() {
            street('a');
            walker('a');
            int lines = random.nextInt(12);
            String once = "sh" + (wrong ? "hd" : "d");
            for (int i = 0; i < lines && text.length() < 1000; i++) {
                int sort = random.nextInt(12);
                char name = (char) ('b' + i);
                if (sort < 2) {
                    street(name);
                } else if (sort < 4) {
                    walker(name);
                } else if (sort < 8) {
                    rule(name);
                } else if (!once.isEmpty()) {
                    int at = random.nextInt(once.length());
                    once(once.charAt(at));
                    once = once.substring(0, at) + once.substring(at + 1);
                }
            }
            if (wrong && random.nextBoolean()) {
                text.setCharAt(random.nextInt(text.length()), "; 0a(<$Z9\u00e4".charAt(random.nextInt(10)));
            } else if (wrong && random.nextBoolean()) {
                text.setLength(random.nextInt(text.length() + 1));
            }
            return text.substring(0, Math.min(text.length(), 1600));
        }

        private int within(int least, int most) {
            return random.nextInt(wrong ? 40 : 4000) == 0 ? most + 1 : least + random.nextInt(Math.max(0, most - least) + 1);
        }

        private Texts put(Object token) {
            String said = token.toString();
            boolean number = text.length() > 0 && Character.isDigit(text.charAt(text.length() - 1));
            boolean word = text.length() > 0 && Character.isLetter(text.charAt(text.length() - 1));
            boolean parted = Character.isLetter(said.charAt(0)) ? word || number : number && Character.isDigit(said.charAt(0));
            if (parted && !(wrong && random.nextInt(150) == 0) || random.nextInt(5) == 0) {
                text.append(random.nextInt(9) == 0 ? '\n' : ' ');
            }
            text.append(random.nextInt(30) == 0 && said.length() < 3 && Character.isDigit(said.charAt(0)) ? "0" + said : said);
            return this;
        }

        private String name(char own) {
            return wrong && random.nextInt(6) == 0 ? NAMES[random.nextInt(NAMES.length)] : "n" + own + (random.nextInt(4) == 0 ? "bcdefg" : "");
        }

        private void street(char own) {
            boolean wide = random.nextInt(6) == 0;
            put("street").put(name(own)).put("joint").put(random.nextInt(3) == 0 ? 0 : within(0, wide ? 9 : 3));
            int slabs = 1 + random.nextInt(wide ? 9 : 12);
            for (int i = 0; i < slabs; i++) {
                put(within(1, wide ? 42 : 14));
                int words = random.nextInt(4) == 0 ? random.nextInt(16) : 0;
                for (int bit = 0; bit < 4; bit++) {
                    if ((words >> bit & 1) == 1) {
                        put(UNITS[bit + 1]);
                    }
                }
            }
            put(";");
        }

        private void walker(char own) {
            int least = within(1, random.nextInt(6) == 0 ? 60 : 7);
            int most = within(least, Math.min(60, least + random.nextInt(12)));
            put("walker").put(name(own)).put("foot").put(within(1, random.nextInt(5) == 0 ? 12 : 3)).put("step").put(least).put("to").put(most);
            if (random.nextBoolean()) {
                put("leap").put(within(most + 1, Math.min(99, most + 1 + random.nextInt(20))));
            }
            put(";");
        }

        private void once(char sort) {
            if (sort == 's') {
                put("slip").put(within(0, 9)).put(within(0, 9)).put(within(0, 9)).put(";");
            } else if (sort == 'h') {
                put("hand").put(within(1, random.nextInt(4) == 0 ? 99 : 12)).put("slack").put(within(0, random.nextInt(4) == 0 ? 99 : 12)).put(";");
            } else {
                put("draw").put(within(0, 999)).put(";");
            }
        }

        private void rule(char own) {
            put("rule").put(name(own));
            if (random.nextInt(3) == 0) {
                put(UNITS[random.nextInt(5)]).put("and").put("inch").put("<").put(random.nextInt(5));
            } else {
                one(0);
            }
            for (int i = random.nextInt(deep ? 12 : 2); i > 0; i--) {
                put(random.nextBoolean() ? "or" : "and");
                one(0);
            }
            put(";");
        }

        private void one(int depth) {
            int most = deep ? 8 : 3;
            if (depth < most && random.nextInt(deep ? 3 : 6) == 0) {
                put("not");
                one(depth + 1);
                return;
            }
            sum(depth);
            if (random.nextInt(2) == 0) {
                put("<>=".charAt(random.nextInt(3)));
                sum(depth);
            }
        }

        private void sum(int depth) {
            unit(depth);
            for (int i = random.nextInt(4) == 0 ? 2 : random.nextInt(2); i > 0; i--) {
                put("+-*/%%%".charAt(random.nextInt(7)));
                unit(depth);
            }
        }

        private void unit(int depth) {
            int most = deep ? 8 : 3;
            if (depth < most && random.nextInt(deep ? 3 : 7) == 0) {
                put("(");
                one(depth + 1);
                put(")");
            } else if (random.nextInt(3) == 0) {
                put(random.nextInt(8) == 0 ? random.nextInt(10000) : random.nextInt(7));
            } else {
                put(UNITS[random.nextInt(UNITS.length)]);
            }
        }
    }
}
