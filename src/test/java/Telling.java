import java.util.ArrayDeque;
import java.util.ArrayList;
import java.util.Deque;
import java.util.HashSet;
import java.util.List;
import java.util.Set;
import java.util.regex.Matcher;
import java.util.regex.Pattern;

/** Reads a text TOKEN by TOKEN, by a state and a stack instead of calls: what is told in it, or its first FAULT. */
final class Telling {
    private static final Pattern TOKEN = Pattern.compile("[a-z]+|[0-9]+|[^ \n]", Pattern.DOTALL);
    private static final Set<String> WORDS = Set.of("street", "joint", "walker", "foot", "step", "to", "leap", "rule", "slip", "hand",
        "slack", "draw", "red", "broken", "drain", "shade", "or", "and", "not", "long", "nth", "inch", "day");
    private static final Set<String> UNITS = Set.of("joint", "red", "broken", "drain", "shade", "long", "nth", "inch", "day");

    int fault = 0;
    int place = -1;
    int streets = 0;
    int walkers = 0;
    int rules = 0;
    int units = 0;
    int slips = 1;
    int draw = 0;

    private final Set<String> told = new HashSet<>();
    private final Set<String> atSlab = new HashSet<>();
    private final Deque<int[]> brackets = new ArrayDeque<>();
    private String state = "line";
    private int joint;
    private int inches;
    private int least;
    private int sum;
    private int unitsHere;
    private boolean mayBeNot;

    Telling(String text) {
        Matcher tokens = TOKEN.matcher(text);
        while (fault == 0 && tokens.find()) {
            String token = tokens.group();
            place = tokens.start();
            char behind = tokens.end() < text.length() ? text.charAt(tokens.end()) : ' ';
            boolean letterBehind = behind >= 'a' && behind <= 'z';
            fault = isToken(token, letterBehind) ? faultOf(token) : 1;
        }
        if (fault == 0 && !state.equals("line")) {
            fault = 2;
            place = text.length();
        }
        place = fault == 0 ? -1 : place;
    }

    private static boolean isToken(String token, boolean letterBehind) {
        if (isNumber(token)) {
            return token.length() <= 4 && !letterBehind;
        }
        return isWord(token) ? token.length() <= 8 : ";()<>=+-*/%".contains(token);
    }

    private static boolean isNumber(String token) {
        return token.charAt(0) >= '0' && token.charAt(0) <= '9';
    }

    private static boolean isWord(String token) {
        return token.charAt(0) >= 'a' && token.charAt(0) <= 'z';
    }

    private int to(String next) {
        state = next;
        return 0;
    }

    private int word(String token, String wanted, String next) {
        return token.equals(wanted) ? to(next) : 2;
    }

    private int number(String token, int from, int upTo, String next) {
        return !isNumber(token) ? 2 : Integer.parseInt(token) < from || Integer.parseInt(token) > upTo ? 4 : to(next);
    }

    private int name(String token, String sort, String next) {
        if (!isWord(token) || WORDS.contains(token)) {
            return 2;
        }
        return told.add(sort + " " + token) ? to(next) : 3;
    }

    private int faultOf(String token) {
        int value = isNumber(token) ? Integer.parseInt(token) : 0;
        switch (state) {
            case "line": return line(token);
            case "street": return name(token, "street", "joint");
            case "joint": return word(token, "joint", "joint N");
            case "joint N":
                joint = value;
                inches = -joint;
                return number(token, 0, 9, "slab");
            case "slab":
            case "slab or end": return slab(token);
            case "walker": return name(token, "walker", "foot");
            case "foot": return word(token, "foot", "foot N");
            case "foot N": return number(token, 1, 12, "step");
            case "step": return word(token, "step", "step N");
            case "step N":
                least = value;
                return number(token, 1, 60, "to");
            case "to": return word(token, "to", "to N");
            case "to N":
                int from = least;
                least = value;
                return number(token, from, 60, "leap or end");
            case "leap or end": return token.equals("leap") ? to("leap N") : end(token);
            case "leap N": return number(token, least + 1, 99, "end");
            case "rule":
                unitsHere = 0;
                mayBeNot = true;
                brackets.clear();
                brackets.push(new int[2]);
                return name(token, "rule", "unit");
            case "unit": return unit(token);
            case "behind": return behind(token);
            case "slip 1":
                sum = value;
                return number(token, 0, 9, "slip 2");
            case "slip 2":
                sum += value;
                return number(token, 0, 9, "slip 3");
            case "slip 3":
                slips = sum + value;
                return number(token, sum == 0 ? 1 : 0, 9, "end");
            case "hand": return number(token, 1, 99, "slack");
            case "slack": return word(token, "slack", "slack N");
            case "slack N": return number(token, 0, 99, "end");
            case "draw":
                draw = value;
                return number(token, 0, 999, "end");
            default: return end(token);
        }
    }

    private int line(String token) {
        switch (token) {
            case "street": return ++streets > 3 ? 2 : to("street");
            case "walker": return ++walkers > 4 ? 2 : to("walker");
            case "rule": return ++rules > 6 ? 2 : to("rule");
            case "slip": return !told.add(token) ? 2 : to("slip 1");
            case "hand": return !told.add(token) ? 2 : to("hand");
            case "draw": return !told.add(token) ? 2 : to("draw");
            default: return 2;
        }
    }

    private int end(String token) {
        return token.equals(";") ? to("line") : 2;
    }

    private int slab(String token) {
        if (isNumber(token)) {
            inches += joint + Integer.parseInt(token);
            atSlab.clear();
            return inches > 400 ? 4 : number(token, 1, 60, "slab or end");
        }
        if (state.equals("slab")) {
            return 2;
        }
        return List.of("red", "broken", "drain", "shade").contains(token) ? atSlab.add(token) ? 0 : 2 : end(token);
    }

    /** How many brackets are open, and how many nots are ahead of what comes. */
    private int depth() {
        int depth = brackets.size() - 1;
        for (int[] bracket : brackets) {
            depth += bracket[0];
        }
        return depth;
    }

    private int unit(String token) {
        if (token.equals("not")) {
            if (!mayBeNot || depth() >= 7) {
                return 2;
            }
            brackets.peek()[0]++;
            return 0;
        }
        if (!token.equals("(") && !isNumber(token) && !UNITS.contains(token)) {
            return 2;
        }
        if (++unitsHere > 30 || ++units > 90) {
            return 2;
        }
        if (!token.equals("(")) {
            return to("behind");
        }
        if (depth() >= 7) {
            return 2;
        }
        brackets.push(new int[2]);
        mayBeNot = true;
        return 0;
    }

    private int behind(String token) {
        int[] bracket = brackets.peek();
        switch (token) {
            case ";": return brackets.size() > 1 ? 2 : to("line");
            case ")":
                if (brackets.size() == 1) {
                    return 2;
                }
                brackets.pop();
                return 0;
            case "and":
            case "or":
                bracket[0] = 0;
                bracket[1] = 0;
                mayBeNot = true;
                return to("unit");
            case "<":
            case ">":
            case "=":
                mayBeNot = false;
                return ++bracket[1] > 1 ? 2 : to("unit");
            case "+":
            case "-":
            case "*":
            case "/":
            case "%":
                mayBeNot = false;
                return to("unit");
            default: return 2;
        }
    }

    /** A list of all the words, for texts that are made by chance. */
    static List<String> words() {
        return new ArrayList<>(new java.util.TreeSet<>(WORDS));
    }
}
