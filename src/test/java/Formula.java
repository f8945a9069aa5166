import java.util.Random;

/** A formula made by chance, by the document's grammar: its text, and its value found by another road than the program's. */
final class Formula {
    interface Value {
        int at(int[] inch, int day);
    }

    private static final String[] WORDS = {"joint", "red", "broken", "drain", "shade", "long", "nth", "inch", "day"};
    private final Random random;
    private final StringBuilder text = new StringBuilder();
    private int units;
    private final int mostUnits;
    final Value value;

    Formula(Random random, int mostUnits) {
        this.random = random;
        this.mostUnits = mostUnits;
        this.value = either(0);
    }

    String text() {
        return text.toString();
    }

    int units() {
        return units;
    }

    private void put(String token) {
        boolean letter = Character.isLetter(token.charAt(0)) || Character.isDigit(token.charAt(0));
        boolean behind = text.length() > 0 && Character.isLetterOrDigit(text.charAt(text.length() - 1));
        if (letter && behind || random.nextInt(6) == 0) {
            text.append(random.nextInt(5) == 0 ? '\n' : ' ');
        }
        text.append(token);
    }

    private boolean more(int odds) {
        return units < mostUnits - 1 && random.nextInt(odds) == 0;
    }

    private Value either(int depth) {
        Value left = both(depth);
        while (more(4)) {
            put("or");
            Value a = left;
            Value b = both(depth);
            left = (i, d) -> a.at(i, d) != 0 | b.at(i, d) != 0 ? 1 : 0;
        }
        return left;
    }

    private Value both(int depth) {
        Value left = one(depth);
        while (more(5)) {
            put("and");
            Value a = left;
            Value b = one(depth);
            left = (i, d) -> a.at(i, d) != 0 & b.at(i, d) != 0 ? 1 : 0;
        }
        return left;
    }

    private Value one(int depth) {
        if (depth < 7 && random.nextInt(6) == 0) {
            put("not");
            Value a = one(depth + 1);
            return (i, d) -> a.at(i, d) == 0 ? 1 : 0;
        }
        Value a = sum(depth);
        if (!more(2)) {
            return a;
        }
        int sign = random.nextInt(3);
        put("<>=".substring(sign, sign + 1));
        Value b = sum(depth);
        return (i, d) -> {
            int order = Integer.compare(a.at(i, d), b.at(i, d));
            return (sign == 0 ? order < 0 : sign == 1 ? order > 0 : order == 0) ? 1 : 0;
        };
    }

    private Value sum(int depth) {
        Value left = term(depth);
        while (more(4)) {
            boolean plus = random.nextBoolean();
            put(plus ? "+" : "-");
            Value a = left;
            Value b = term(depth);
            left = (i, d) -> plus ? a.at(i, d) + b.at(i, d) : a.at(i, d) - b.at(i, d);
        }
        return left;
    }

    private Value term(int depth) {
        Value left = unit(depth);
        while (more(4)) {
            int sign = random.nextInt(3);
            put("*/%".substring(sign, sign + 1));
            Value a = left;
            Value b = unit(depth);
            left = (i, d) -> {
                int x = a.at(i, d);
                int y = b.at(i, d);
                return sign == 0 ? x * y : y == 0 ? 0 : sign == 1 ? x / y : x % y;
            };
        }
        return left;
    }

    private Value unit(int depth) {
        units++;
        if (depth < 7 && more(4)) {
            put("(");
            Value inside = either(depth + 1);
            put(")");
            return inside;
        }
        if (random.nextInt(3) == 0) {
            int number = random.nextInt(8) == 0 ? random.nextInt(10000) : random.nextInt(8);
            put("" + number);
            return (i, d) -> number;
        }
        int word = random.nextInt(WORDS.length);
        put(WORDS[word]);
        switch (word) {
            case 0: return (i, d) -> i[0];
            case 1: return (i, d) -> i[4] & 1;
            case 2: return (i, d) -> i[4] >> 1 & 1;
            case 3: return (i, d) -> i[4] >> 2 & 1;
            case 4: return (i, d) -> i[4] >> 3 & 1;
            case 5: return (i, d) -> i[3];
            case 6: return (i, d) -> i[1];
            case 7: return (i, d) -> i[2];
            default: return (i, d) -> d;
        }
    }
}
