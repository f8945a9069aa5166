import java.util.ArrayList;
import java.util.HashSet;
import java.util.List;
import java.util.Set;

/** A text read as the document's grammar stands there: its TOKENS first, then line by line, up to the first FAULT. */
final class Told {
    interface E {
        int at(Inch inch, int day);
    }

    record Inch(boolean joint, int nth, int inch, int wide, Set<String> words) {
    }

    /** With leap = most for who has none. */
    record Walker(int foot, int least, int most, int leap) {
    }

    private record Token(char sort, String text, int place) {
        boolean is(String wanted) {
            return text.equals(wanted) && (sort == 'w' || sort == 's');
        }
    }

    private static final class Fault extends RuntimeException {
        private static final long serialVersionUID = 1;
        final int number;
        final int place;

        Fault(int number, Token token) {
            this.number = token.sort() == 'x' ? 1 : number;
            this.place = token.place();
        }
    }

    private static final String SIGNS = ";()<>=+-*/%";
    private static final List<String> SLAB_WORDS = List.of("red", "broken", "drain", "shade");
    private static final Set<String> OWN = Set.of("street", "joint", "walker", "foot", "step", "to", "leap", "rule", "slip", "hand",
        "slack", "draw", "red", "broken", "drain", "shade", "or", "and", "not", "long", "nth", "inch", "day");

    final List<List<Inch>> streets = new ArrayList<>();
    final List<Walker> walkers = new ArrayList<>();
    final List<E> rules = new ArrayList<>();
    int[] slip = {0, 1, 0};
    int hand = 30;
    int slack = 10;
    int draw = 0;
    int units = 0;
    int fault = 0;
    int place = -1;

    private final List<Token> tokens = new ArrayList<>();
    private final Set<String> names = new HashSet<>();
    private final Set<String> once = new HashSet<>();
    private int at = 0;
    private int unitsInOne;

    Told(String text) {
        cut(text);
        try {
            while (now().sort() != 'e') {
                line();
            }
        } catch (Fault found) {
            fault = found.number;
            place = found.place;
        }
    }

    private static boolean isLetter(String text, int i) {
        return i < text.length() && text.charAt(i) >= 'a' && text.charAt(i) <= 'z';
    }

    private static boolean isDigit(String text, int i) {
        return i < text.length() && text.charAt(i) >= '0' && text.charAt(i) <= '9';
    }

    private void cut(String text) {
        int i = 0;
        while (i < text.length()) {
            int from = i;
            char sort;
            if (text.charAt(i) == 32 || text.charAt(i) == 10) {
                i++;
                continue;
            } else if (isLetter(text, i)) {
                while (isLetter(text, i)) {
                    i++;
                }
                sort = i - from <= 8 ? 'w' : 'x';
            } else if (isDigit(text, i)) {
                while (isDigit(text, i)) {
                    i++;
                }
                sort = i - from <= 4 && !isLetter(text, i) ? 'n' : 'x';
            } else {
                sort = SIGNS.indexOf(text.charAt(i++)) >= 0 ? 's' : 'x';
            }
            tokens.add(new Token(sort, text.substring(from, i), from));
        }
        tokens.add(new Token('e', "", text.length()));
    }

    private Token now() {
        return tokens.get(at);
    }

    private Token take() {
        return tokens.get(at++);
    }

    private void must(boolean holds, int otherwise) {
        if (!holds) {
            throw new Fault(otherwise, now());
        }
    }

    private void word(String wanted) {
        must(now().is(wanted), 2);
        take();
    }

    private int number(int least, int most) {
        must(now().sort() == 'n', 2);
        int value = Integer.parseInt(now().text());
        must(value >= least && value <= most, 4);
        take();
        return value;
    }

    private void name(String sort) {
        must(now().sort() == 'w' && !OWN.contains(now().text()), 2);
        must(names.add(sort + now().text()), 3);
        take();
    }

    private void line() {
        String sort = now().sort() == 'w' ? now().text() : "";
        switch (sort) {
            case "street":
                must(streets.size() < 3, 2);
                take();
                name(sort);
                street();
                break;
            case "walker":
                must(walkers.size() < 4, 2);
                take();
                name(sort);
                walker();
                break;
            case "rule":
                must(rules.size() < 6, 2);
                take();
                name(sort);
                unitsInOne = 0;
                rules.add(either(0));
                break;
            case "slip":
            case "hand":
            case "draw":
                must(once.add(sort), 2);
                take();
                once(sort);
                break;
            default:
                must(false, 2);
        }
        word(";");
    }

    private void street() {
        word("joint");
        int joint = number(0, 9);
        List<Inch> inches = new ArrayList<>();
        int nth = 0;
        do {
            for (int i = 0; nth > 0 && i < joint; i++) {
                inches.add(new Inch(true, nth - 1, i, joint, Set.of()));
            }
            int wide = number(1, Math.min(60, 400 - inches.size()));
            Set<String> words = new HashSet<>();
            while (SLAB_WORDS.contains(now().text()) && now().sort() == 'w') {
                must(words.add(now().text()), 2);
                take();
            }
            for (int i = 0; i < wide; i++) {
                inches.add(new Inch(false, nth, i, wide, words));
            }
            nth++;
        } while (now().sort() == 'n');
        streets.add(inches);
    }

    private void walker() {
        word("foot");
        int foot = number(1, 12);
        word("step");
        int least = number(1, 60);
        word("to");
        int most = number(least, 60);
        int leap = most;
        if (now().is("leap")) {
            take();
            leap = number(most + 1, 99);
        }
        walkers.add(new Walker(foot, least, most, leap));
    }

    private void once(String sort) {
        if (sort.equals("slip")) {
            int first = number(0, 9);
            int second = number(0, 9);
            slip = new int[] {first, second, number(first + second == 0 ? 1 : 0, 9)};
        } else if (sort.equals("hand")) {
            hand = number(1, 99);
            word("slack");
            slack = number(0, 99);
        } else {
            draw = number(0, 999);
        }
    }

    private static int truth(boolean holds) {
        return holds ? 1 : 0;
    }

    private E either(int within) {
        E left = both(within);
        while (now().is("or")) {
            take();
            E one = left;
            E other = both(within);
            left = (inch, day) -> truth(one.at(inch, day) != 0 || other.at(inch, day) != 0);
        }
        return left;
    }

    private E both(int within) {
        E left = one(within);
        while (now().is("and")) {
            take();
            E one = left;
            E other = one(within);
            left = (inch, day) -> truth(one.at(inch, day) != 0 && other.at(inch, day) != 0);
        }
        return left;
    }

    private E one(int within) {
        if (now().is("not")) {
            must(within <= 6, 2);
            take();
            E behind = one(within + 1);
            return (inch, day) -> truth(behind.at(inch, day) == 0);
        }
        E left = sum(within);
        String sign = now().text();
        if (!now().is("<") && !now().is(">") && !now().is("=")) {
            return left;
        }
        take();
        E right = sum(within);
        switch (sign) {
            case "<": return (inch, day) -> truth(left.at(inch, day) < right.at(inch, day));
            case ">": return (inch, day) -> truth(left.at(inch, day) > right.at(inch, day));
            default: return (inch, day) -> truth(left.at(inch, day) == right.at(inch, day));
        }
    }

    private E sum(int within) {
        E left = term(within);
        while (now().is("+") || now().is("-")) {
            boolean plus = take().is("+");
            E one = left;
            E other = term(within);
            left = (inch, day) -> (int) ((long) one.at(inch, day) + (plus ? 1L : -1L) * other.at(inch, day));
        }
        return left;
    }

    private E term(int within) {
        E left = unit(within);
        while (now().is("*") || now().is("/") || now().is("%")) {
            String sign = take().text();
            E one = left;
            E other = unit(within);
            left = (inch, day) -> product(sign, one.at(inch, day), other.at(inch, day));
        }
        return left;
    }

    private static int product(String sign, long one, long other) {
        return sign.equals("*") ? (int) (one * other) : other == 0 ? 0 : (int) (sign.equals("/") ? one / other : one % other);
    }

    private E unit(int within) {
        must(units < 90 && unitsInOne < 30, 2);
        units++;
        unitsInOne++;
        if (now().sort() == 'n') {
            int value = Integer.parseInt(take().text());
            return (inch, day) -> value;
        }
        if (now().is("(")) {
            must(within <= 6, 2);
            take();
            E inside = either(within + 1);
            word(")");
            return inside;
        }
        must(now().sort() == 'w', 2);
        String word = now().text();
        must(SLAB_WORDS.contains(word) || Set.of("joint", "long", "nth", "inch", "day").contains(word), 2);
        take();
        switch (word) {
            case "joint": return (inch, day) -> truth(inch.joint());
            case "long": return (inch, day) -> inch.wide();
            case "nth": return (inch, day) -> inch.nth();
            case "inch": return (inch, day) -> inch.inch();
            case "day": return (inch, day) -> day;
            default: return (inch, day) -> truth(inch.words().contains(word));
        }
    }
}
