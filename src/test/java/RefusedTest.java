import java.util.ArrayList;
import java.util.LinkedHashMap;
import java.util.List;
import java.util.Map;

/** A refused call does nothing: what later calls answer is as if it had not been made. */
public final class RefusedTest {
    private static final int LEAST = Integer.MIN_VALUE;
    private static final int MOST = Integer.MAX_VALUE;
    private static final String TEXT = "street s joint 1 5 5 red 5 broken 5;walker w foot 2 step 3 to 5 leap 9;rule r red or joint;"
        + "rule n nth%2=1 and joint=0;slip 1 2 1;draw 5;walker v foot 12 step 1 to 60;street t joint 0 12;rule d day>2;";

    private interface State {
        void bring(SlabWalk x);
    }

    private interface Call {
        long on(SlabWalk x);
    }

    public static void main(String[] args) {
        areAsNamed();
        int compared = 0;
        for (Map.Entry<String, State> state : states().entrySet()) {
            Map<String, Call> refused = refusedAnywhere();
            refused.putAll(refusedIn(state.getKey()));
            List<List<Long>> due = later(state.getValue(), null);
            for (Map.Entry<String, Call> call : refused.entrySet()) {
                String told = call.getKey() + " in the state " + state.getKey();
                SlabWalk x = new SlabWalk();
                state.getValue().bring(x);
                Due.due(told, call.getValue().on(x), 0);
                List<List<Long>> got = later(state.getValue(), call.getValue());
                for (int i = 0; i < due.size(); i++) {
                    Due.due("behind " + told + " row " + i + ": " + got.get(i) + ", not " + due.get(i), got.get(i).equals(due.get(i)), true);
                    compared++;
                }
            }
        }
        System.out.println(compared + " rows of later answers compared");
        questionsDoNothing();
        Due.finish();
    }

    private static void areAsNamed() {
        String[] names = {"up", "leapt", "eaten", "through"};
        int[] how = {1, 1, 0, 2};
        for (int i = 0; i < names.length; i++) {
            SlabWalk x = new SlabWalk();
            states().get(names[i]).bring(x);
            Due.due(names[i], x.walker(4), how[i]);
            Due.due(names[i] + ", behind a LEAP", x.walker(5), i == 1 ? 1 : 0);
            Due.due(names[i] + ", something is undone", x.about(8), 1);
            Due.due(names[i] + ", four lie there", x.about(13), 4);
        }
    }

    /** 0 if a call answers NONE, as it has to here. */
    private static long none(long answer) {
        return answer == -1 ? 0 : 1;
    }

    private static long none(boolean answer) {
        return answer ? 1 : 0;
    }

    private static Map<String, State> states() {
        Map<String, State> states = new LinkedHashMap<>();
        states.put("new", x -> { });
        states.put("told", x -> tell(x, TEXT));
        states.put("tape", x -> {
            tell(x, TEXT);
            Due.feed(x, "draw 17;   ");
        });
        states.put("full tape", x -> {
            tell(x, TEXT);
            Due.feed(x, "draw 18;" + " ".repeat(1592));
        });
        states.put("fault", x -> {
            tell(x, TEXT);
            x.walk(0, 0, 2);
            Due.feed(x, "draw 17;draw");
            x.pavement();
        });
        states.put("up", x -> {
            use(x);
            x.undo();
        });
        states.put("leapt", x -> {
            use(x);
            x.rain();
            x.walk(0, 0, 0);
            x.go(9);
            x.rain();
            x.undo();
        });
        states.put("eaten", x -> {
            use(x);
            x.force(1);
            x.walk(0, 0, 4);
            x.force(2);
            x.undo();
        });
        states.put("through", x -> {
            use(x);
            x.walk(1, 1, 0);
            x.go(60);
            x.day();
            x.undo();
        });
        states.put("full acts", x -> {
            use(x);
            for (int i = 0; i < 45; i++) {
                x.day();
            }
        });
        states.put("all undone", x -> {
            use(x);
            for (int i = 0; i < 9; i++) {
                x.undo();
            }
        });
        states.put("full sights", x -> {
            use(x);
            for (int i = 0; i < 20; i++) {
                x.sight(0, 0, i);
            }
        });
        states.put("late", x -> {
            use(x);
            for (int i = 0; i < 99; i++) {
                x.later(1000);
            }
            x.later(998);
        });
        return states;
    }

    private static void tell(SlabWalk x, String text) {
        Due.feed(x, text);
        x.pavement();
    }

    private static void use(SlabWalk x) {
        tell(x, TEXT);
        x.walk(0, 0, 2);
        x.image(2);
        x.force(0);
        x.force(1);
        x.force(0);
        x.day();
        x.later(1);
        x.sight(0, 0, 6);
        x.later(1);
        x.sight(0, 0, 12);
        x.untell(0);
        x.image(0);
        x.fewest(0, 0, 0, 0);
        x.go(4);
    }

    /** Calls that can't be in any of the states. */
    private static Map<String, Call> refusedAnywhere() {
        Map<String, Call> calls = new LinkedHashMap<>();
        for (int n : new int[] {LEAST, -1, 1601, MOST}) {
            calls.put("end " + n, x -> none(x.end(n)));
            calls.put("later " + n, x -> none(x.later(n)));
            calls.put("walk who " + n, x -> none(x.walk(n, 0, 0)));
            calls.put("walk where " + n, x -> none(x.walk(0, n, 0)));
            calls.put("walk at " + n, x -> none(x.walk(0, 0, n)));
            calls.put("sight of " + n, x -> none(x.sight(n, 0, 0)));
            calls.put("sight on " + n, x -> none(x.sight(0, n, 0)));
            calls.put("sight at " + n, x -> none(x.sight(0, 0, n)));
            calls.put("go " + n, x -> none(x.go(n)));
            calls.put("force " + n, x -> none(x.force(n)));
            calls.put("image " + n, x -> none(x.image(n)));
            calls.put("back " + n, x -> none(x.back(n)));
            calls.put("untell " + n, x -> none(x.untell(n)));
            calls.put("fault " + n, x -> none(x.fault(n)));
            calls.put("about " + n, x -> none(x.about(n)));
            calls.put("walker " + n, x -> none(x.walker(n)));
            calls.put("lies " + n, x -> none(x.lies(n)));
            calls.put("inch " + n, x -> none(x.inch(0, 0, n)) + none(x.inch(0, n, 0)) + none(x.inch(n, 0, 0)));
            calls.put("line " + n, x -> none(x.line(n, 0, 0)) + none(x.line(0, n, 0)) + none(x.line(0, 0, n)));
            calls.put("gap " + n, x -> none(x.gap(n, 0, 0)) + none(x.gap(0, n, 0)) + none(x.gap(0, 0, n)));
            calls.put("foot " + n, x -> none(x.foot(n, 0, 0, 0)) + none(x.foot(0, 0, 0, n)));
            calls.put("ways " + n, x -> none(x.ways(0, 0, 0, n)) + none(x.ways(0, 0, n, 1)));
            calls.put("evenest " + n, x -> none(x.evenest(0, 0, 0, n)) + none(x.evenest(0, n, 0, 0)));
            calls.put("even " + n, x -> none(x.even(0, 0, 0, 0, n)) + none(x.even(0, 0, 0, n, 1)));
            calls.put("first " + n, x -> x.first(5, 1, 2, 3, n) + 2);
            calls.put("begin " + n, x -> none(x.begin(n, 1, 2, 3)));
            calls.put("suits " + n, x -> none(x.suits(n, 1, 2, 3, 1)));
            calls.put("keeps " + n, x -> none(x.keeps(0, 0, n)));
            calls.put("brave " + n, x -> none(x.brave(0, 0, 0, n, 1)) + none(x.brave(0, 0, 0, 0, n)));
            calls.put("boldest " + n, x -> none(x.boldest(0, 0, 0, n, 1)) + none(x.boldest(0, 0, 0, 0, n)));
            calls.put("wager " + n, x -> none(x.wager(0, 0, 0, n)) + none(x.wager(0, 0, n, 0)));
            calls.put("leave " + n, x -> none(x.leave(n, 0)) + none(x.leave(0, n)));
            calls.put("chance " + n, x -> none(x.chance(n, 0, 0)) + none(x.chance(0, n, 0)));
        }
        calls.put("walk at his most", x -> none(x.walk(0, 0, 5)));
        calls.put("walk where his FOOT does not stand", x -> none(x.walk(1, 1, 1)));
        calls.put("sight where his FOOT does not stand", x -> none(x.sight(1, 1, 1)));
        calls.put("sight on the last INCH", x -> none(x.sight(0, 0, 22)));
        calls.put("go below his least", x -> none(x.go(0)));
        calls.put("go above his leap", x -> none(x.go(100)));
        calls.put("force of a RULE that is not told", x -> none(x.force(3)));
        calls.put("later 1001", x -> none(x.later(1001)));
        calls.put("image 3", x -> none(x.image(3)));
        calls.put("back 3", x -> none(x.back(3)));
        calls.put("back from the empty BOX", x -> none(x.back(1)));
        calls.put("untell 20", x -> none(x.untell(20)));
        return calls;
    }

    /** Calls that can't be in this state. */
    private static Map<String, Call> refusedIn(String state) {
        Map<String, Call> calls = new LinkedHashMap<>();
        switch (state) {
            case "new":
            case "told":
            case "tape":
            case "full tape":
                calls.put("go while nobody walks", x -> none(x.go(3)));
                calls.put("undo", x -> none(x.undo()));
                calls.put("redo", x -> none(x.redo()));
                calls.put("untell 0", x -> none(x.untell(0)));
                calls.put("back 0", x -> none(x.back(0)));
                break;
            case "up":
                calls.put("go below his least", x -> none(x.go(2)));
                calls.put("go above his leap", x -> none(x.go(10)));
                calls.put("untell again", x -> none(x.untell(0)));
                calls.put("untell what is not told", x -> none(x.untell(2)));
                break;
            case "leapt":
                calls.put("a LEAP behind a LEAP", x -> none(x.go(6)));
                calls.put("a LEAP behind a LEAP, the longest", x -> none(x.go(9)));
                break;
            case "eaten":
            case "through":
                calls.put("go though not UP", x -> none(x.go(3)));
                calls.put("go though not UP, a LEAP", x -> none(x.go(9)));
                break;
            case "full acts":
                calls.put("redo", x -> none(x.redo()));
                break;
            case "all undone":
                calls.put("undo", x -> none(x.undo()));
                calls.put("go while nobody walks", x -> none(x.go(3)));
                break;
            case "full sights":
                calls.put("sight 20", x -> none(x.sight(0, 0, 0)));
                calls.put("untell 0 again", x -> none(x.untell(0)));
                break;
            case "late":
                calls.put("later 1", x -> none(x.later(1)));
                calls.put("later 1000", x -> none(x.later(1000)));
                break;
            default:
                calls.put("fault 2", x -> none(x.fault(2)));
        }
        if (state.equals("full tape")) {
            calls.put("feed", x -> none(x.feed(1, 2, 3, 4, 5)));
        } else if (state.equals("tape")) {
            calls.put("end 12", x -> none(x.end(12)));
        } else {
            calls.put("end 1", x -> none(x.end(1)));
        }
        return calls;
    }

    /** What can be seen behind a state and a call, in rows each from an object of its own. */
    private static List<List<Long>> later(State state, Call call) {
        List<List<Long>> rows = new ArrayList<>();
        for (int row = 0; row < 8; row++) {
            SlabWalk x = new SlabWalk();
            state.bring(x);
            if (call != null) {
                call.on(x);
            }
            List<Long> answers = new ArrayList<>();
            switch (row) {
                case 0: whole(x, answers); break;
                case 1: undoAll(x, answers); break;
                case 2: redoAll(x, answers); break;
                case 3: goOn(x, answers); break;
                case 4:
                case 5:
                case 6:
                    answers.add((long) x.back(row - 4));
                    whole(x, answers);
                    break;
                default:
                    answers.add((long) x.pavement());
                    whole(x, answers);
            }
            rows.add(answers);
        }
        return rows;
    }

    private static void whole(SlabWalk x, List<Long> answers) {
        for (int what = 0; what < 15; what++) {
            answers.add((long) x.about(what));
        }
        for (int what = 0; what < 6; what++) {
            answers.add((long) x.walker(what));
        }
        for (int i = 0; i < 6; i++) {
            answers.add((long) x.lies(i));
        }
        answers.add((long) x.fault(0));
        answers.add((long) x.fault(1));
        for (int k : new int[] {0, 1, 2, 100_000}) {
            answers.add((long) x.fits(k));
            answers.add(x.chance(0, 0, k));
            answers.add(x.chance(0, 1, k));
        }
        for (int street = 0; street < 3; street++) {
            answers.add((long) x.length(street));
        }
        for (int i = 0; i < 23; i++) {
            answers.add((long) x.line(0, 5, i));
            answers.add((long) x.foot(0, 0, 0, i));
        }
        answers.add((long) x.fewest(0, 0, 0, 0));
        answers.add(x.ways(0, 0, 0, 4));
    }

    private static void undoAll(SlabWalk x, List<Long> answers) {
        for (int i = 0; i < 41 && x.undo(); i++) {
            for (int what = 3; what < 9; what++) {
                answers.add((long) x.about(what));
            }
            for (int what = 2; what < 6; what++) {
                answers.add((long) x.walker(what));
            }
        }
    }

    private static void redoAll(SlabWalk x, List<Long> answers) {
        for (int i = 0; i < 41 && x.redo(); i++) {
            for (int what = 3; what < 9; what++) {
                answers.add((long) x.about(what));
            }
            for (int what = 0; what < 6; what++) {
                answers.add((long) x.walker(what));
            }
        }
    }

    private static void goOn(SlabWalk x, List<Long> answers) {
        for (int by = 3; by < 8; by++) {
            answers.add((long) x.go(by));
            answers.add((long) x.walker(2));
            answers.add((long) x.about(4));
        }
        answers.add((long) x.sight(0, 0, 3));
        answers.add((long) x.later(2));
        answers.add((long) x.day());
        answers.add((long) x.force(1));
        answers.add((long) x.walk(0, 0, 1));
        answers.add((long) x.feed(0x20202020, 0x20202020, 0x20202020, 0x20202020, 0x20202020));
        answers.add((long) x.pavement());
        answers.add((long) x.about(4));
    }

    /** Part 3: nothing is done by what is only asked, but that HEELS and EVENS lie there. */
    private static void questionsDoNothing() {
        Map<String, Call> calls = new LinkedHashMap<>();
        calls.put("inch", x -> x.inch(0, 0, 0));
        calls.put("line", x -> x.line(0, 1, 5));
        calls.put("gap", x -> x.gap(0, 1, 1));
        calls.put("foot", x -> x.foot(0, 0, 0, 3));
        calls.put("ways", x -> x.ways(0, 0, 0, 4));
        calls.put("evenest", x -> x.evenest(0, 0, 0, 0));
        calls.put("even", x -> x.even(0, 0, 0, 0, 3));
        calls.put("first", x -> x.first(5, 1, 2, 3, 0));
        calls.put("begin", x -> x.begin(5, 1, 2, 3));
        calls.put("suits", x -> x.suits(5, 1, 6, 1, 2));
        calls.put("keeps", x -> x.keeps(0, 0, 0));
        calls.put("brave", x -> x.brave(0, 0, 0, 3, 8));
        calls.put("boldest", x -> x.boldest(0, 0, 0, 3, 8));
        calls.put("wager", x -> x.wager(0, 0, 0, 1));
        calls.put("leave", x -> x.leave(0, 0));
        calls.put("fits", x -> x.fits(1));
        calls.put("chance", x -> x.chance(0, 0, 1));
        calls.put("walker", x -> x.walker(2));
        calls.put("lies", x -> x.lies(0));
        calls.put("about", x -> x.about(4));
        calls.put("fault", x -> x.fault(0));
        for (String name : new String[] {"up", "leapt", "eaten", "through", "tape", "fault"}) {
            State state = states().get(name);
            List<List<Long>> due = later(state, null);
            for (Map.Entry<String, Call> call : calls.entrySet()) {
                Due.due(call.getKey() + " does nothing in the state " + name, later(state, call.getValue()).equals(due), true);
            }
        }
    }
}
