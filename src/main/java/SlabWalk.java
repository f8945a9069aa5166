import java.util.Arrays;

/** Pavements, those who walk on them, and the lines they may not step on: see ../shared/DOC.md. */
public final class SlabWalk {
    /** There is none. */
    public static final int NONE = -1;

    private static final int CAN_NOT_BE = -2;
    private static final int MOST_BYTES = 1600;
    private static final int MOST_STREETS = 3;
    private static final int MOST_WALKERS = 4;
    private static final int MOST_RULES = 6;
    private static final int MOST_INCHES = 400;
    private static final int MOST_SLAB = 60;
    private static final int MOST_JOINT = 9;
    private static final int MOST_FOOT = 12;
    private static final int MOST_STEP = 60;
    private static final int MOST_LEAP = 99;
    private static final int MOST_FEET_COUNTED = 60;
    private static final int MOST_BRAVE_STEPS = 8;
    private static final int MOST_DAY = 1000;
    private static final int MOST_LATER = 1000;
    private static final int MOST_TIME = 100_000;

    private static final int NO_TOKEN = 1;
    private static final int OUT_OF_PLACE = 2;
    private static final int TOLD_ALREADY = 3;
    private static final int BAD_NUMBER = 4;

    // A sign's kind is its own byte; the words' kinds are in the order of WORDS, joint to shade in that of an INCH's bits.
    private static final String WORDS = "street  walker  foot    step    to      leap    rule    slip    hand    slack   draw    joint   red     broken  drain   shade   or      and     not     long    nth     inch    day     ";
    private static final String SIGNS = ";()<>=+-*/%";
    private static final int WORD_WIDTH = 8;
    private static final int STREET = 128;
    private static final int WALKER = 129;
    private static final int FOOT = 130;
    private static final int STEP = 131;
    private static final int TO = 132;
    private static final int LEAP = 133;
    private static final int RULE = 134;
    private static final int SLIP = 135;
    private static final int HAND = 136;
    private static final int SLACK = 137;
    private static final int DRAW = 138;
    private static final int JOINT = 139;
    private static final int RED = 140;
    private static final int BROKEN = 141;
    private static final int DRAIN = 142;
    private static final int SHADE = 143;
    private static final int OR = 144;
    private static final int AND = 145;
    private static final int NOT = 146;
    private static final int LONG = 147;
    private static final int NTH = 148;
    private static final int INCH = 149;
    private static final int DAY = 150;
    private static final int NAME = 200;
    private static final int NUMBER = 201;
    private static final int NOTHING = 202;
    private static final int TEXT_END = 203;

    private static final int UP = 1;
    private static final int EATEN = 0;
    private static final int THROUGH = 2;

    private Paving paving = new Paving();
    private Paving spare = new Paving();
    private final byte[] tape = new byte[MOST_BYTES];
    private final Reader reader = new Reader(tape, spare);
    private final Lines lines = new Lines(paving);
    private final Course course = new Course();
    private final Trails trails = new Trails();
    private final Odds odds = new Odds();
    private final Earnest earnest = new Earnest();
    private final Sights sights = new Sights();
    private final int[] lying = new int[MOST_INCHES];
    private int taped;
    private int lie;

    public SlabWalk() {
        startAnew();
    }

    public int feed(int a, int b, int c, int d, int e) {
        if (taped + 20 > MOST_BYTES) {
            return NONE;
        }
        putOnTape(a);
        putOnTape(b);
        putOnTape(c);
        putOnTape(d);
        putOnTape(e);
        return taped;
    }

    public int end(int n) {
        if (n < 0 || n > taped) {
            return NONE;
        }
        taped = n;
        return n;
    }

    public int pavement() {
        boolean good = reader.read(taped, spare);
        taped = 0;
        if (!good) {
            return NONE;
        }
        Paving read = spare;
        spare = paving;
        paving = read;
        startAnew();
        return paving.streets;
    }

    public int fault(int what) {
        return what == 0 ? reader.tokens.fault : what == 1 ? reader.tokens.faultPlace : NONE;
    }

    public int inch(int street, int x, int what) {
        if (!paving.hasInch(street, x) || what < 0 || what > 4) {
            return NONE;
        }
        return Paving.part(paving.inchAt(street, x), what);
    }

    public int length(int street) {
        return paving.hasStreet(street) ? paving.length[street] : NONE;
    }

    public int line(int street, int rules, int x) {
        if (!paving.hasInch(street, x) || !paving.hasSet(rules)) {
            return NONE;
        }
        lines.findFor(street, today());
        return lines.isLine(street, rules, x) ? 1 : 0;
    }

    public int gap(int street, int rules, int what) {
        if (!paving.hasStreet(street) || !paving.hasSet(rules)) {
            return NONE;
        }
        lines.findFor(street, today());
        int longest = 0;
        int where = NONE;
        int marked = 0;
        int row = 0;
        for (int x = 0; x < paving.length[street]; x++) {
            boolean marks = lines.isLine(street, rules, x);
            marked += marks ? 1 : 0;
            row = marks ? 0 : row + 1;
            if (row > longest) {
                longest = row;
                where = x - row + 1;
            }
        }
        return what == 0 ? longest : what == 1 ? where : what == 2 ? marked : NONE;
    }

    public int foot(int walker, int street, int rules, int x) {
        if (!canAsk(walker, street, rules) || !paving.hasInch(street, x)) {
            return NONE;
        }
        lines.findFor(street, today());
        return lines.isLawful(walker, street, rules, x) ? 1 : 0;
    }

    public int fewest(int walker, int street, int rules, int what) {
        lie = 0;
        if (!canAsk(walker, street, rules) || what < 0 || what > 2) {
            return NONE;
        }
        prepare(walker, street, rules);
        int feet = trails.fewestFeet(course, what);
        if (feet == NONE) {
            return NONE;
        }
        lie = trails.layHeels(course, feet, lying);
        return feet;
    }

    public long ways(int walker, int street, int rules, int n) {
        if (!canAsk(walker, street, rules) || n < 1 || n > MOST_FEET_COUNTED) {
            return NONE;
        }
        prepare(walker, street, rules);
        return odds.countWays(course, n);
    }

    public int evenest(int walker, int street, int rules, int what) {
        if (!canAsk(walker, street, rules) || what < 0 || what > 1) {
            return NONE;
        }
        prepare(walker, street, rules);
        return trails.mostEven(course, what);
    }

    public int even(int walker, int street, int rules, int x, int by) {
        if (!canAsk(walker, street, rules) || !paving.hasInch(street, x) || by < 1 || by > MOST_LEAP) {
            return NONE;
        }
        prepare(walker, street, rules);
        int feet = 0;
        for (int heel = x; heel <= course.last && course.lawful[heel]; heel += by) {
            feet++;
        }
        return feet;
    }

    public int evens(int walker, int street, int rules) {
        lie = 0;
        if (!canAsk(walker, street, rules)) {
            return NONE;
        }
        prepare(walker, street, rules);
        for (int by = course.least; by <= course.most; by++) {
            if (trails.comesEvenly(course, by)) {
                layDown(by);
            }
        }
        return lie;
    }

    public int first(int slab, int joint, int foot, int by, int x) {
        if (!isEndless(slab, joint, foot) || by < 1 || by > MOST_LEAP || x < 0 || x >= slab + joint) {
            return CAN_NOT_BE;
        }
        int round = slab + joint;
        int at = x;
        for (int feet = 0; feet < round; feet++) {
            if (joint > 0 && at + foot > slab) {
                return feet;
            }
            at = (at + by) % round;
        }
        return NONE;
    }

    public int begin(int slab, int joint, int foot, int by) {
        if (!isEndless(slab, joint, foot) || by < 1 || by > MOST_LEAP) {
            return NONE;
        }
        return beginnings(slab, joint, foot, by);
    }

    public long suits(int slab, int joint, int other, int wide, int foot) {
        if (!isEndless(slab, joint, foot) || !isEndless(other, wide, foot)) {
            return NONE;
        }
        long suiting = 0;
        for (int by = 1; by <= MOST_STEP; by++) {
            if (beginnings(slab, joint, foot, by) != 0 && beginnings(other, wide, foot, by) != 0) {
                suiting |= 1L << (by - 1);
            }
        }
        return suiting;
    }

    public int keeps(int walker, int street, int rules) {
        if (!canAsk(walker, street, rules)) {
            return NONE;
        }
        prepare(walker, street, rules);
        return trails.fewestLeaps(course, paving.hand, paving.slack);
    }

    public long brave(int walker, int street, int rules, int x, int n) {
        if (!canBeBrave(walker, street, rules, x, n)) {
            return NONE;
        }
        prepare(walker, street, rules);
        return odds.bravest(course, paving.slip, x, n);
    }

    public int boldest(int walker, int street, int rules, int x, int n) {
        if (!canBeBrave(walker, street, rules, x, n)) {
            return NONE;
        }
        prepare(walker, street, rules);
        odds.bravest(course, paving.slip, x, n);
        return odds.boldestStep();
    }

    public int wager(int walker, int street, int rules, int what) {
        if (!canAsk(walker, street, rules) || what < 0 || what > 1) {
            return NONE;
        }
        prepare(walker, street, rules);
        int winning = winningRule(street, rules);
        return what == 1 ? winning : winning == NONE ? 0 : 1;
    }

    public int leave(int walker, int street) {
        if (!canAsk(walker, street, 0)) {
            return NONE;
        }
        prepare(walker, street, 0);
        int sets = 0;
        for (int rules = 0; rules < 1 << paving.rules; rules++) {
            sets += leavesWay(street, rules) ? 1 : 0;
        }
        return sets;
    }

    public int walk(int walker, int street, int x) {
        if (!paving.stands(walker, street, x) || x >= paving.most[walker]) {
            return NONE;
        }
        earnest.setOut(walker, street, x);
        if (!isLawfulNow()) {
            earnest.now[Earnest.HOW] = EATEN;
        }
        earnest.keepAct();
        return earnest.now[Earnest.HOW];
    }

    public int go(int by) {
        if (!canGo(by)) {
            return NONE;
        }
        int[] now = earnest.now;
        int walker = now[Earnest.WHO];
        earnest.drawSeed();
        int heel = now[Earnest.HEEL] + by + paving.slipBy(now[Earnest.SEED]);
        now[Earnest.LEAPT] = by > paving.most[walker] ? 1 : 0;
        if (paving.stands(walker, now[Earnest.WHERE], heel)) {
            now[Earnest.HEEL] = heel;
            now[Earnest.FEET]++;
            now[Earnest.HOW] = isLawfulNow() ? UP : EATEN;
        } else {
            now[Earnest.HOW] = THROUGH;
        }
        earnest.keepAct();
        return now[Earnest.HOW];
    }

    public int force(int rule) {
        if (!paving.hasRule(rule)) {
            return NONE;
        }
        earnest.now[Earnest.FORCE] ^= 1 << rule;
        earnest.keepAct();
        return earnest.now[Earnest.FORCE] >> rule & 1;
    }

    public boolean rain() {
        earnest.now[Earnest.RAIN] ^= 1;
        earnest.keepAct();
        return earnest.now[Earnest.RAIN] == 1;
    }

    public int day() {
        if (today() >= MOST_DAY) {
            return NONE;
        }
        earnest.now[Earnest.TODAY]++;
        earnest.keepAct();
        return today();
    }

    public boolean undo() {
        return earnest.takeBack();
    }

    public boolean redo() {
        return earnest.doAgain();
    }

    public int walker(int what) {
        if (earnest.now[Earnest.WHO] == NONE || what < 0 || what > Earnest.LEAPT) {
            return NONE;
        }
        return earnest.now[what];
    }

    public int lies(int i) {
        return i >= 0 && i < lie ? lying[i] : NONE;
    }

    public int sight(int walker, int street, int x) {
        return paving.stands(walker, street, x) ? sights.tell(walker, street, x) : NONE;
    }

    public boolean untell(int sight) {
        return sights.takeFrom(sight);
    }

    public int later(int by) {
        if (by < 0 || by > MOST_LATER || sights.time + by > MOST_TIME) {
            return NONE;
        }
        sights.time += by;
        return sights.time;
    }

    public int fits(int k) {
        int fitting = 0;
        for (int rule = 0; rule < paving.rules; rule++) {
            fitting |= fitsAll(rule, k) ? 1 << rule : 0;
        }
        return fitting;
    }

    public long chance(int rule, int part, int k) {
        if (!paving.hasRule(rule) || part < 0 || part > 1) {
            return NONE;
        }
        long upper = 1;
        long lower = 1;
        for (int sight = 0; sight < sights.count; sight++) {
            if (sights.counts(sight, k)) {
                upper *= heelsNear(sight, rule, true);
                lower *= heelsNear(sight, rule, false);
            }
        }
        long common = commonDivisor(lower, upper);
        if (common == 0) {
            return NONE;
        }
        return part == 0 ? upper / common : lower / common;
    }

    public int image(int box) {
        return earnest.keepIn(box) ? today() : NONE;
    }

    public int back(int box) {
        return earnest.bringFrom(box) ? today() : NONE;
    }

    public int about(int what) {
        switch (what) {
            case 0: return paving.streets;
            case 1: return paving.walkers;
            case 2: return paving.rules;
            case 3: return today();
            case 4: return earnest.now[Earnest.SEED];
            case 5: return earnest.now[Earnest.FORCE];
            case 6: return earnest.now[Earnest.RAIN];
            case 7: return earnest.done;
            case 8: return earnest.undone;
            case 9: return sights.count;
            case 10: return sights.time;
            case 11: return taped;
            case 12: return paving.units;
            case 13: return lie;
            case 14: return paving.allSlips();
            default: return NONE;
        }
    }

    private void startAnew() {
        lines.lookAt(paving);
        earnest.startAnew(paving.draw);
        sights.count = 0;
        lie = 0;
    }

    private void putOnTape(int number) {
        for (int shift = 24; shift >= 0; shift -= 8) {
            if (taped < MOST_BYTES) {
                tape[taped++] = (byte) (number >> shift);
            }
        }
    }

    private void layDown(int number) {
        if (lie < MOST_INCHES) {
            lying[lie++] = number;
        }
    }

    private int today() {
        return earnest.now[Earnest.TODAY];
    }

    private boolean canAsk(int walker, int street, int rules) {
        return paving.hasWalker(walker) && paving.hasStreet(street) && paving.hasSet(rules);
    }

    private boolean canBeBrave(int walker, int street, int rules, int x, int n) {
        return canAsk(walker, street, rules) && paving.stands(walker, street, x) && n >= 1 && n <= MOST_BRAVE_STEPS;
    }

    private boolean canGo(int by) {
        int walker = earnest.now[Earnest.WHO];
        if (!paving.hasWalker(walker) || earnest.now[Earnest.HOW] != UP || by < paving.least[walker]) {
            return false;
        }
        boolean leapt = earnest.now[Earnest.LEAPT] == 1;
        return by <= (leapt ? paving.most[walker] : paving.leap[walker]);
    }

    /** In earnest, of the FOOT that stands now. */
    private boolean isLawfulNow() {
        int[] now = earnest.now;
        int street = now[Earnest.WHERE];
        lines.findFor(street, today());
        return now[Earnest.RAIN] == 1
            || lines.isLawful(now[Earnest.WHO], street, now[Earnest.FORCE], now[Earnest.HEEL]);
    }

    private void prepare(int walker, int street, int rules) {
        lines.findFor(street, today());
        course.lookAt(paving, walker, street);
        course.findLawful(lines, street, rules);
    }

    /** By another set of RULES than the one that was prepared. */
    private boolean leavesWay(int street, int rules) {
        course.findLawful(lines, street, rules);
        return trails.isThereWay(course);
    }

    /** The first RULE by which who is to add one to the set wins, or NONE. */
    private int winningRule(int street, int rules) {
        int all = (1 << paving.rules) - 1;
        for (int set = all; set >= rules; set--) {
            if ((set & rules) == rules) {
                trails.winning[set] = trails.winningFrom(set, all);
                trails.leaving[set] = leavesWay(street, set);
            }
        }
        return trails.winning[rules];
    }

    private boolean fitsAll(int rule, int k) {
        for (int sight = 0; sight < sights.count; sight++) {
            if (sights.counts(sight, k) && !isLawfulSight(sight, rule, 0)) {
                return false;
            }
        }
        return true;
    }

    private boolean isLawfulSight(int sight, int rule, int away) {
        int heel = sights.heel[sight] + away;
        lines.findFor(sights.street[sight], today());
        return lines.isLawful(sights.walker[sight], sights.street[sight], 1 << rule, heel);
    }

    /** How many HEELS near a SIGHT stand, or of these are LAWFUL by the RULE. */
    private int heelsNear(int sight, int rule, boolean lawful) {
        int heels = 0;
        for (int away = -3; away <= 3; away++) {
            if (paving.stands(sights.walker[sight], sights.street[sight], sights.heel[sight] + away)
                && (!lawful || isLawfulSight(sight, rule, away))) {
                heels++;
            }
        }
        return heels;
    }

    private static boolean isEndless(int slab, int joint, int foot) {
        return slab >= 1 && slab <= MOST_SLAB && joint >= 0 && joint <= MOST_JOINT && foot >= 1 && foot <= MOST_FOOT;
    }

    /** Even HEELS visit every INCH of the round that is like the first one modulo what is common to round and length. */
    private static int beginnings(int slab, int joint, int foot, int by) {
        int round = slab + joint;
        int common = (int) commonDivisor(round, by);
        if (joint == 0 || common == 0) {
            return round;
        }
        return Math.max(0, common - joint - foot + 1) * (round / common);
    }

    private static long commonDivisor(long one, long other) {
        // Euclid needs fewer than a hundred turns for any two longs.
        for (int turn = 0; turn < 200 && other != 0; turn++) {
            long rest = one % other;
            one = other;
            other = rest;
        }
        return one;
    }

    /** What a PAVEMENT tells, once it has been read. */
    private static final class Paving {
        // 90 units, as many signs between them, and at most a not for each four bytes of the text.
        private static final int MOST_CODE = 2 * 90 + MOST_BYTES / 4;

        final int[] length = new int[MOST_STREETS];
        final int[] inches = new int[MOST_STREETS * MOST_INCHES];
        final int[] foot = new int[MOST_WALKERS];
        final int[] least = new int[MOST_WALKERS];
        final int[] most = new int[MOST_WALKERS];
        final int[] leap = new int[MOST_WALKERS];
        final int[] slip = new int[3];
        final int[] code = new int[MOST_CODE];
        final int[] codeEnd = new int[MOST_RULES + 1];
        int streets;
        int walkers;
        int rules;
        int units;
        int coded;
        int hand;
        int slack;
        int draw;

        Paving() {
            empty();
        }

        void empty() {
            streets = 0;
            walkers = 0;
            rules = 0;
            units = 0;
            coded = 0;
            hand = 30;
            slack = 10;
            draw = 0;
            slip[0] = 0;
            slip[1] = 1;
            slip[2] = 0;
        }

        int inchAt(int street, int x) {
            return hasInch(street, x) ? inches[street * MOST_INCHES + x] : 0;
        }

        /** Of an INCH 0: joint, 1: nth, 2: inch, 3: long, 4: the SLAB's words as bits. */
        static int part(int inch, int what) {
            switch (what) {
                case 0: return inch & 1;
                case 1: return inch >> 5 & 511;
                case 2: return inch >> 14 & 63;
                case 3: return inch >> 20 & 63;
                default: return inch >> 1 & 15;
            }
        }

        /** Lays a SLAB, or a joint, behind the INCHES of the STREET that is being told. */
        void lay(int joint, int words, int nth, int wide) {
            if (streets >= MOST_STREETS) {
                return;
            }
            int from = length[streets];
            for (int inch = 0; inch < wide && from + inch < MOST_INCHES; inch++) {
                inches[streets * MOST_INCHES + from + inch] = joint | words << 1 | nth << 5 | inch << 14 | wide << 20;
            }
            length[streets] = Math.min(from + wide, MOST_INCHES);
        }

        void emit(int kind, int value) {
            if (coded < MOST_CODE) {
                code[coded++] = kind | value << 10;
            }
        }

        boolean hasStreet(int street) {
            return street >= 0 && street < streets && street < MOST_STREETS;
        }

        boolean hasWalker(int walker) {
            return walker >= 0 && walker < walkers && walker < MOST_WALKERS;
        }

        boolean hasRule(int rule) {
            return rule >= 0 && rule < rules && rule < MOST_RULES;
        }

        boolean hasSet(int set) {
            return set >= 0 && set < 1 << rules;
        }

        boolean hasInch(int street, int x) {
            return hasStreet(street) && x >= 0 && x < length[street];
        }

        boolean stands(int walker, int street, int heel) {
            return hasWalker(walker) && hasStreet(street) && heel >= 0 && heel <= length[street] - foot[walker];
        }

        int allSlips() {
            return slip[0] + slip[1] + slip[2];
        }

        /** By how much one slips at a SEED: -1, 0 or 1. */
        int slipBy(int seed) {
            int all = allSlips();
            int rest = all == 0 ? 0 : seed % all;
            return rest < slip[0] ? -1 : rest < slip[0] + slip[1] ? 0 : 1;
        }
    }

    /** Cuts the text into TOKENS, of which it knows the one at hand, and keeps the first FAULT. */
    private static final class Tokens {
        private final byte[] text;
        private int size;
        private int at;
        int kind;
        int place;
        int number;
        long word;
        int fault;
        int faultPlace = NONE;

        Tokens(byte[] bytes) {
            text = bytes;
        }

        void open(int length) {
            size = Math.min(length, text.length);
            at = 0;
            fault = 0;
            faultPlace = NONE;
            advance();
        }

        /** Always false, so that a reading that is refused ends with it. */
        boolean refuse(int why) {
            if (fault == 0) {
                fault = kind == NOTHING ? NO_TOKEN : why;
                faultPlace = place;
            }
            return false;
        }

        boolean pass(int wanted) {
            return kind == wanted ? advance() : refuse(OUT_OF_PLACE);
        }

        /** Always true. */
        boolean advance() {
            while (at < size && (text[at] == ' ' || text[at] == '\n')) {
                at++;
            }
            place = at;
            if (at >= size) {
                kind = TEXT_END;
            } else if (isLetter(at)) {
                cutWord();
            } else if (isDigit(at)) {
                cutNumber();
            } else {
                int sign = text[at++] & 255;
                kind = SIGNS.indexOf((char) sign) >= 0 ? sign : NOTHING;
            }
            return true;
        }

        private boolean isLetter(int i) {
            return i < size && text[i] >= 'a' && text[i] <= 'z';
        }

        private boolean isDigit(int i) {
            return i < size && text[i] >= '0' && text[i] <= '9';
        }

        /** A word of eight letters fits a long, by five bits a letter, so that names are compared as numbers. */
        private void cutWord() {
            word = 0;
            while (at < size && isLetter(at)) {
                word = word << 5 | text[at] - 'a' + 1;
                at++;
            }
            kind = at - place > WORD_WIDTH ? NOTHING : kindOfWord();
        }

        private int kindOfWord() {
            for (int from = 0; from + WORD_WIDTH <= WORDS.length(); from += WORD_WIDTH) {
                int same = 0;
                while (same < WORD_WIDTH && WORDS.charAt(from + same) == (place + same < at ? text[place + same] : ' ')) {
                    same++;
                }
                if (same == WORD_WIDTH) {
                    return STREET + from / WORD_WIDTH;
                }
            }
            return NAME;
        }

        private void cutNumber() {
            number = 0;
            while (at < size && isDigit(at)) {
                number = number * 10 + text[at] - '0';
                at++;
            }
            kind = at - place > 4 || isLetter(at) ? NOTHING : NUMBER;
        }
    }

    /** Reads a PAVEMENT's lines. */
    private static final class Reader {
        final Tokens tokens;
        private final Formulas formulas;
        private final long[] streetNames = new long[MOST_STREETS];
        private final long[] walkerNames = new long[MOST_WALKERS];
        private final long[] ruleNames = new long[MOST_RULES];
        private Paving paving;
        private boolean slipTold;
        private boolean handTold;
        private boolean drawTold;
        private int number;

        Reader(byte[] text, Paving target) {
            tokens = new Tokens(text);
            formulas = new Formulas(tokens, target);
            paving = target;
        }

        boolean read(int size, Paving target) {
            paving = target;
            paving.empty();
            slipTold = false;
            handTold = false;
            drawTold = false;
            tokens.open(size);
            boolean good = true;
            for (int count = 0; good && count < MOST_BYTES && tokens.kind != TEXT_END; count++) {
                switch (tokens.kind) {
                    case STREET: good = readStreet(); break;
                    case WALKER: good = readWalker(); break;
                    case RULE: good = readRule(); break;
                    case SLIP: good = readSlip(); break;
                    case HAND: good = readHand(); break;
                    case DRAW: good = readDraw(); break;
                    default: good = tokens.refuse(OUT_OF_PLACE);
                }
            }
            return good;
        }

        /** The line's first word, if one more of its sort may be told. */
        private boolean passFirst(boolean mayBe) {
            return mayBe ? tokens.advance() : tokens.refuse(OUT_OF_PLACE);
        }

        private boolean passName(long[] names, int count) {
            if (tokens.kind != NAME || count >= names.length) {
                return tokens.refuse(OUT_OF_PLACE);
            }
            for (int i = 0; i < count; i++) {
                if (names[i] == tokens.word) {
                    return tokens.refuse(TOLD_ALREADY);
                }
            }
            names[count] = tokens.word;
            return tokens.advance();
        }

        private boolean isNumber(int least, int most) {
            if (tokens.kind != NUMBER) {
                return tokens.refuse(OUT_OF_PLACE);
            }
            if (tokens.number < least || tokens.number > most) {
                return tokens.refuse(BAD_NUMBER);
            }
            number = tokens.number;
            return true;
        }

        private boolean passNumber(int least, int most) {
            return isNumber(least, most) && tokens.advance();
        }

        private boolean readStreet() {
            if (!passFirst(paving.streets < MOST_STREETS) || !passName(streetNames, paving.streets)
                || !tokens.pass(JOINT) || !passNumber(0, MOST_JOINT)) {
                return false;
            }
            int joint = number;
            paving.length[paving.streets] = 0;
            for (int nth = 0; nth < MOST_BYTES && (nth == 0 || tokens.kind == NUMBER); nth++) {
                if (!readSlab(nth, joint)) {
                    return false;
                }
            }
            if (!tokens.pass(';')) {
                return false;
            }
            paving.streets++;
            return true;
        }

        private boolean readSlab(int nth, int joint) {
            int ahead = nth == 0 ? 0 : joint;
            int room = MOST_INCHES - paving.length[paving.streets] - ahead;
            if (!isNumber(1, Math.min(MOST_SLAB, room))) {
                return false;
            }
            int wide = number;
            int words = 0;
            tokens.advance();
            for (int count = 0; count <= 4 && tokens.kind >= RED && tokens.kind <= SHADE; count++) {
                int word = 1 << tokens.kind - RED;
                if ((words & word) != 0) {
                    return tokens.refuse(OUT_OF_PLACE);
                }
                words |= word;
                tokens.advance();
            }
            if (nth > 0) {
                paving.lay(1, 0, nth - 1, ahead);
            }
            paving.lay(0, words, nth, wide);
            return true;
        }

        private boolean readWalker() {
            int walker = paving.walkers;
            if (!passFirst(walker < MOST_WALKERS) || !passName(walkerNames, walker)
                || !tokens.pass(FOOT) || !passNumber(1, MOST_FOOT)) {
                return false;
            }
            paving.foot[walker] = number;
            if (!tokens.pass(STEP) || !passNumber(1, MOST_STEP)) {
                return false;
            }
            paving.least[walker] = number;
            if (!tokens.pass(TO) || !passNumber(paving.least[walker], MOST_STEP)) {
                return false;
            }
            paving.most[walker] = number;
            if (tokens.kind == LEAP && (!tokens.pass(LEAP) || !passNumber(paving.most[walker] + 1, MOST_LEAP))) {
                return false;
            }
            // Who has no leap has his most here, so that no length is above the one and not above the other.
            paving.leap[walker] = number;
            paving.walkers++;
            return tokens.pass(';');
        }

        private boolean readRule() {
            if (!passFirst(paving.rules < MOST_RULES) || !passName(ruleNames, paving.rules)) {
                return false;
            }
            paving.codeEnd[paving.rules] = paving.coded;
            if (!formulas.read(paving)) {
                return false;
            }
            paving.rules++;
            paving.codeEnd[paving.rules] = paving.coded;
            return tokens.pass(';');
        }

        private boolean readSlip() {
            if (!passFirst(!slipTold)) {
                return false;
            }
            slipTold = true;
            int sum = 0;
            for (int i = 0; i < 3; i++) {
                if (!passNumber(i == 2 && sum == 0 ? 1 : 0, 9)) {
                    return false;
                }
                paving.slip[i] = number;
                sum += number;
            }
            return tokens.pass(';');
        }

        private boolean readHand() {
            if (!passFirst(!handTold) || !passNumber(1, 99)) {
                return false;
            }
            handTold = true;
            paving.hand = number;
            if (!tokens.pass(SLACK) || !passNumber(0, 99)) {
                return false;
            }
            paving.slack = number;
            return tokens.pass(';');
        }

        private boolean readDraw() {
            if (!passFirst(!drawTold) || !passNumber(0, 999)) {
                return false;
            }
            drawTold = true;
            paving.draw = number;
            return tokens.pass(';');
        }
    }

    /** Reads a RULE's formula and puts it down with each sign behind what it joins. */
    private static final class Formulas {
        private static final int MOST_UNITS = 90;
        private static final int MOST_UNITS_IN_ONE = 30;
        private static final int MOST_DEPTH = 6;

        private final Tokens tokens;
        private Paving paving;
        private int units;

        Formulas(Tokens text, Paving target) {
            tokens = text;
            paving = target;
        }

        boolean read(Paving target) {
            paving = target;
            units = 0;
            return passEither(0);
        }

        private boolean passEither(int depth) {
            if (!passBoth(depth)) {
                return false;
            }
            for (int count = 0; count < MOST_BYTES && tokens.kind == OR; count++) {
                tokens.advance();
                if (!passBoth(depth)) {
                    return false;
                }
                paving.emit(OR, 0);
            }
            return true;
        }

        private boolean passBoth(int depth) {
            if (!passOne(depth)) {
                return false;
            }
            for (int count = 0; count < MOST_BYTES && tokens.kind == AND; count++) {
                tokens.advance();
                if (!passOne(depth)) {
                    return false;
                }
                paving.emit(AND, 0);
            }
            return true;
        }

        private boolean passOne(int depth) {
            if (tokens.kind != NOT) {
                return passRelation(depth);
            }
            if (depth > MOST_DEPTH) {
                return tokens.refuse(OUT_OF_PLACE);
            }
            tokens.advance();
            if (!passOne(depth + 1)) {
                return false;
            }
            paving.emit(NOT, 0);
            return true;
        }

        private boolean passRelation(int depth) {
            if (!passSum(depth)) {
                return false;
            }
            int sign = tokens.kind;
            if (sign != '<' && sign != '>' && sign != '=') {
                return true;
            }
            tokens.advance();
            if (!passSum(depth)) {
                return false;
            }
            paving.emit(sign, 0);
            return true;
        }

        private boolean passSum(int depth) {
            if (!passTerm(depth)) {
                return false;
            }
            for (int count = 0; count < MOST_BYTES && (tokens.kind == '+' || tokens.kind == '-'); count++) {
                int sign = tokens.kind;
                tokens.advance();
                if (!passTerm(depth)) {
                    return false;
                }
                paving.emit(sign, 0);
            }
            return true;
        }

        private boolean passTerm(int depth) {
            if (!passUnit(depth)) {
                return false;
            }
            for (int count = 0; count < MOST_BYTES && isTimes(tokens.kind); count++) {
                int sign = tokens.kind;
                tokens.advance();
                if (!passUnit(depth)) {
                    return false;
                }
                paving.emit(sign, 0);
            }
            return true;
        }

        private static boolean isTimes(int kind) {
            return kind == '*' || kind == '/' || kind == '%';
        }

        private boolean passUnit(int depth) {
            if (units >= MOST_UNITS_IN_ONE || paving.units >= MOST_UNITS) {
                return tokens.refuse(OUT_OF_PLACE);
            }
            units++;
            paving.units++;
            switch (tokens.kind) {
                case '(':
                    return passBracket(depth);
                case NUMBER:
                    paving.emit(NUMBER, tokens.number);
                    return tokens.advance();
                case JOINT: case RED: case BROKEN: case DRAIN: case SHADE:
                case LONG: case NTH: case INCH: case DAY:
                    paving.emit(tokens.kind, 0);
                    return tokens.advance();
                default:
                    return tokens.refuse(OUT_OF_PLACE);
            }
        }

        private boolean passBracket(int depth) {
            if (depth > MOST_DEPTH) {
                return tokens.refuse(OUT_OF_PLACE);
            }
            tokens.advance();
            if (!passEither(depth + 1)) {
                return false;
            }
            return tokens.kind == ')' ? tokens.advance() : tokens.refuse(OUT_OF_PLACE);
        }
    }

    /** Which INCHES are LINES by which RULES, found once for a STREET and a DAY. */
    private static final class Lines {
        // Behind the RULES' bits a further one stands for the empty set.
        private static final int EMPTY_SET = 1 << MOST_RULES;
        // Of an INCH's bits those of joint, broken, drain.
        private static final int FORBIDDEN = 13;
        private static final int MOST_VALUES = 100;

        private final int[] found = new int[MOST_STREETS * MOST_INCHES];
        private final int[] foundOn = new int[MOST_STREETS];
        private final int[] values = new int[MOST_VALUES];
        private int top;
        private Paving paving;

        Lines(Paving looked) {
            paving = looked;
        }

        void lookAt(Paving looked) {
            paving = looked;
            Arrays.fill(foundOn, NONE);
        }

        void findFor(int street, int day) {
            if (!paving.hasStreet(street) || foundOn[street] == day) {
                return;
            }
            for (int x = 0; x < paving.length[street]; x++) {
                int inch = paving.inchAt(street, x);
                int bits = (inch & FORBIDDEN) != 0 ? EMPTY_SET : 0;
                for (int rule = 0; rule < paving.rules && rule < MOST_RULES; rule++) {
                    bits |= valueOf(rule, inch, day) != 0 ? 1 << rule : 0;
                }
                found[street * MOST_INCHES + x] = bits;
            }
            foundOn[street] = day;
        }

        /** Behind findFor, as isLawful. */
        boolean isLine(int street, int rules, int x) {
            return paving.hasInch(street, x) && (found[street * MOST_INCHES + x] & (rules == 0 ? EMPTY_SET : rules)) != 0;
        }

        boolean isLawful(int walker, int street, int rules, int heel) {
            if (!paving.stands(walker, street, heel)) {
                return false;
            }
            for (int x = heel; x < heel + paving.foot[walker]; x++) {
                if (isLine(street, rules, x)) {
                    return false;
                }
            }
            return true;
        }

        private int valueOf(int rule, int inch, int day) {
            top = 0;
            for (int i = paving.codeEnd[rule]; i < paving.codeEnd[rule + 1]; i++) {
                int kind = paving.code[i] & 1023;
                if (kind == NUMBER) {
                    push(paving.code[i] >> 10);
                } else if (kind == NOT) {
                    push(pop() == 0 ? 1 : 0);
                } else if (kind == OR || kind == AND || kind < STREET) {
                    int right = pop();
                    int left = pop();
                    push(join(kind, left, right));
                } else {
                    push(ownOf(kind, inch, day));
                }
            }
            return pop();
        }

        private void push(int value) {
            if (top < MOST_VALUES) {
                values[top++] = value;
            }
        }

        private int pop() {
            return top > 0 ? values[--top] : 0;
        }

        private static int ownOf(int word, int inch, int day) {
            switch (word) {
                case DAY: return day;
                case NTH: return Paving.part(inch, 1);
                case INCH: return Paving.part(inch, 2);
                case LONG: return Paving.part(inch, 3);
                default: return inch >> word - JOINT & 1;
            }
        }

        private static int join(int sign, int left, int right) {
            switch (sign) {
                case OR: return left != 0 || right != 0 ? 1 : 0;
                case AND: return left != 0 && right != 0 ? 1 : 0;
                case '<': return left < right ? 1 : 0;
                case '>': return left > right ? 1 : 0;
                case '=': return left == right ? 1 : 0;
                case '+': return left + right;
                case '-': return left - right;
                case '*': return left * right;
                case '/': return right == 0 ? 0 : left / right;
                default: return right == 0 ? 0 : left % right;
            }
        }
    }

    /** A WALKER on a STREET: which HEELS are LAWFUL by a set of RULES, and which are the END. */
    private static final class Course {
        final boolean[] lawful = new boolean[MOST_INCHES];
        int length;
        int foot;
        int least;
        int most;
        int leap;
        /** The last HEEL that stands, or -1. */
        int last;
        /** The first HEEL that is the END. */
        int end;

        void lookAt(Paving paving, int walker, int street) {
            length = paving.length[street];
            foot = paving.foot[walker];
            least = paving.least[walker];
            most = paving.most[walker];
            leap = paving.leap[walker];
            last = Math.max(-1, length - foot);
            end = Math.max(0, length - foot - most + 1);
        }

        void findLawful(Lines lines, int street, int rules) {
            int clear = 0;
            for (int x = length - 1; x >= 0; x--) {
                clear = lines.isLine(street, rules, x) ? 0 : clear + 1;
                lawful[x] = clear >= foot;
            }
        }

        /** The last HEEL with which one may begin. */
        int lastFirst() {
            return Math.min(most - 1, last);
        }
    }

    /** The least of the values whose keys lie within a window that only goes upward. */
    private static final class Minima {
        private final int[] keys = new int[MOST_INCHES];
        private final int[] values = new int[MOST_INCHES];
        private int head;
        private int tail;

        void empty() {
            head = 0;
            tail = 0;
        }

        void add(int key, int value) {
            while (tail > head && values[tail - 1] >= value) {
                tail--;
            }
            if (tail < MOST_INCHES) {
                keys[tail] = key;
                values[tail++] = value;
            }
        }

        int leastFrom(int key) {
            while (head < tail && keys[head] < key) {
                head++;
            }
            return head < tail ? values[head] : Trails.FAR;
        }
    }

    /** Finds WAYS on a course. */
    private static final class Trails {
        static final int FAR = 1_000_000;
        private static final int ROOM = MOST_INCHES + 2;

        // By parity of the FEET still to come and behind a step (0) or a LEAP (1), or whatever else needs such rows.
        private final int[][] rows = new int[4][ROOM];
        private final Minima steps = new Minima();
        private final Minima leaps = new Minima();
        final int[] winning = new int[1 << MOST_RULES];
        final boolean[] leaving = new boolean[1 << MOST_RULES];

        /** FEWEST FEET that end on any (0), the left (1), the right one (2), or NONE. */
        int fewestFeet(Course course, int ending) {
            for (int heel = course.last; heel >= 0; heel--) {
                for (int parity = 0; parity < 2; parity++) {
                    findFeetFrom(course, heel, parity);
                }
            }
            int fewest = FAR;
            for (int heel = 0; heel <= course.lastFirst(); heel++) {
                fewest = ending == 2 ? fewest : Math.min(fewest, rows[2][heel]);
                fewest = ending == 1 ? fewest : Math.min(fewest, rows[0][heel]);
            }
            return fewest >= FAR ? NONE : fewest;
        }

        private void findFeetFrom(Course course, int heel, int parity) {
            int behindStep = FAR;
            int behindLeap = FAR;
            if (course.lawful[heel] && heel >= course.end) {
                behindLeap = parity == 1 ? 1 : FAR;
                behindStep = behindLeap;
            } else if (course.lawful[heel]) {
                int other = 2 * (1 - parity);
                behindLeap = 1 + leastOf(rows[other], heel + course.least, heel + course.most);
                int leaping = leastOf(rows[other + 1], heel + course.most + 1, Math.min(heel + course.leap, course.last));
                behindStep = Math.min(behindLeap, 1 + leaping);
            }
            rows[2 * parity][heel] = behindStep;
            rows[2 * parity + 1][heel] = behindLeap;
        }

        private static int leastOf(int[] row, int from, int to) {
            int least = FAR;
            for (int i = from; i <= to && i < ROOM; i++) {
                least = Math.min(least, row[i]);
            }
            return least;
        }

        /** Lays down the first WAY of so many FEET, behind fewestFeet: how many HEELS it laid. */
        int layHeels(Course course, int feet, int[] heels) {
            int from = 0;
            int to = course.lastFirst();
            boolean leapt = false;
            int laid = 0;
            for (int rest = feet; rest > 0 && laid < heels.length; rest--) {
                int longest = laid == 0 ? FAR : heels[laid - 1] + course.most;
                int heel = from;
                while (heel < to && rows[rowOf(rest, heel > longest)][heel] != rest) {
                    heel++;
                }
                heels[laid++] = heel;
                leapt = heel > longest;
                from = heel + course.least;
                to = Math.min(heel + (leapt ? course.most : course.leap), course.last);
            }
            return laid;
        }

        private static int rowOf(int feet, boolean leapt) {
            return 2 * (feet & 1) + (leapt ? 1 : 0);
        }

        boolean isThereWay(Course course) {
            // The nearest HEEL from each one on that leads to the END: behind a step, and behind a LEAP.
            int[] stepped = rows[0];
            int[] leapt = rows[1];
            stepped[course.last + 1] = FAR;
            leapt[course.last + 1] = FAR;
            for (int heel = course.last; heel >= 0; heel--) {
                boolean ends = heel >= course.end;
                boolean bySteps = ends || stepped[heel + course.least] <= heel + course.most;
                boolean byLeap = bySteps || leapt[heel + course.most + 1] <= heel + course.leap;
                leapt[heel] = course.lawful[heel] && bySteps ? heel : leapt[heel + 1];
                stepped[heel] = course.lawful[heel] && byLeap ? heel : stepped[heel + 1];
            }
            return stepped[0] < course.most;
        }

        /** The first HEEL from which steps from shortest to longest lead to the END, or FAR. */
        private int firstHeel(Course course, int shortest, int longest) {
            int[] near = rows[0];
            near[course.last + 1] = FAR;
            for (int heel = course.last; heel >= 0; heel--) {
                boolean leads = heel >= course.end || near[heel + shortest] <= heel + longest;
                near[heel] = course.lawful[heel] && leads ? heel : near[heel + 1];
            }
            return near[0];
        }

        boolean comesEvenly(Course course, int by) {
            return firstHeel(course, by, by) < course.most;
        }

        /** EVENEST: longest less shortest (0), or the shortest (1); NONE. */
        int mostEven(Course course, int what) {
            int firsts = Math.min(course.most, course.end);
            int least = FAR;
            int best = NONE;
            int longest = course.least;
            // With a longer shortest step the longest one can't become shorter.
            for (int shortest = course.least; shortest <= course.most; shortest++) {
                longest = Math.max(longest, shortest);
                while (longest <= course.most && firstHeel(course, shortest, longest) >= firsts) {
                    longest++;
                }
                if (longest <= course.most && longest - shortest < least) {
                    least = longest - shortest;
                    best = shortest;
                }
            }
            return best == NONE || what == 1 ? best : least;
        }

        /** The fewest LEAPS of a WAY that keeps the HAND, or NONE. */
        int fewestLeaps(Course course, int hand, int slack) {
            Arrays.fill(rows[0], FAR);
            Arrays.fill(rows[1], FAR);
            for (int heel = 0; heel <= Math.min(slack, course.lastFirst()); heel++) {
                rows[0][heel] = course.lawful[heel] ? 0 : FAR;
            }
            int fewest = FAR;
            int now = 0;
            boolean goesOn = true;
            for (int tick = 1; goesOn && tick <= MOST_INCHES; tick++) {
                fewest = Math.min(fewest, leastOf(rows[now], course.end, course.last));
                fewest = Math.min(fewest, leastOf(rows[now + 1], course.end, course.last));
                goesOn = followHand(course, now, hand * tick - slack, hand * tick + slack);
                now = 2 - now;
            }
            return fewest >= FAR ? NONE : fewest;
        }

        /** From the HEELS of one TICK, in the rows now and now + 1, to those of the next, in the other two: is there one? */
        private boolean followHand(Course course, int now, int from, int to) {
            int[] nextStepped = rows[2 - now];
            int[] nextLeapt = rows[3 - now];
            Arrays.fill(nextStepped, FAR);
            Arrays.fill(nextLeapt, FAR);
            steps.empty();
            leaps.empty();
            boolean reaches = false;
            int first = Math.max(0, from);
            int step = Math.max(0, first - course.most);
            int leap = Math.max(0, first - course.leap);
            for (int heel = first; heel <= Math.min(to, course.last); heel++) {
                for (; step <= heel - course.least && step < course.end; step++) {
                    steps.add(step, Math.min(rows[now][step], rows[now + 1][step]));
                }
                for (; leap < heel - course.most && leap < course.end; leap++) {
                    leaps.add(leap, Math.min(FAR, rows[now][leap] + 1));
                }
                if (course.lawful[heel]) {
                    nextStepped[heel] = steps.leastFrom(heel - course.most);
                    nextLeapt[heel] = leaps.leastFrom(heel - course.leap);
                    reaches = reaches || nextStepped[heel] < FAR || nextLeapt[heel] < FAR;
                }
            }
            return reaches;
        }

        /** The first RULE that wins from a set, by what is known of the sets that have one more. */
        int winningFrom(int set, int all) {
            for (int rule = 0; rule < MOST_RULES && 1 << rule <= all; rule++) {
                int more = set | 1 << rule;
                if (more != set && leaving[more] && winning[more] == NONE) {
                    return rule;
                }
            }
            return NONE;
        }
    }

    /** Counts WAYS and odds on a course. */
    private static final class Odds {
        private static final long MOST_WAYS = 1_000_000_000_000_000L;
        private static final int ROOM = MOST_INCHES + 4;

        private final long[] stepped = new long[ROOM];
        private final long[] leapt = new long[ROOM];
        private final long[] sums = new long[ROOM];
        private final long[] steppedSums = new long[ROOM];
        private final long[] odds = new long[ROOM];
        private final long[] aims = new long[ROOM];
        private int boldest;

        long countWays(Course course, int feet) {
            for (int heel = 0; heel <= course.last; heel++) {
                stepped[heel] = course.lawful[heel] && heel < course.most ? 1 : 0;
                leapt[heel] = 0;
            }
            for (int i = 1; i < feet; i++) {
                setNextFeet(course);
            }
            long count = 0;
            for (int heel = course.end; heel <= course.last; heel++) {
                count = Math.min(MOST_WAYS, count + stepped[heel] + leapt[heel]);
            }
            return count;
        }

        private void setNextFeet(Course course) {
            sums[0] = 0;
            steppedSums[0] = 0;
            for (int heel = 0; heel < course.end; heel++) {
                sums[heel + 1] = sums[heel] + stepped[heel] + leapt[heel];
                steppedSums[heel + 1] = steppedSums[heel] + stepped[heel];
            }
            for (int heel = 0; heel <= course.last; heel++) {
                boolean lawful = course.lawful[heel];
                stepped[heel] = lawful ? sumOf(sums, course.end, heel - course.most, heel - course.least) : 0;
                leapt[heel] = lawful ? sumOf(steppedSums, course.end, heel - course.leap, heel - course.most - 1) : 0;
            }
        }

        private static long sumOf(long[] sums, int end, int from, int to) {
            int first = Math.max(0, from);
            int behind = Math.min(to + 1, end);
            return behind <= first ? 0 : Math.min(MOST_WAYS, sums[behind] - sums[first]);
        }

        /** BRAVE from a HEEL that stands, for so many steps. */
        long bravest(Course course, int[] slip, int from, int steps) {
            long through = 1;
            for (int heel = from; heel <= course.last; heel++) {
                odds[heel] = course.lawful[heel] ? 1 : 0;
            }
            for (int step = 0; step < steps; step++) {
                for (int heel = course.last + 1; heel <= course.last + 3; heel++) {
                    odds[heel] = through;
                }
                through *= slip[0] + slip[1] + slip[2];
                for (int heel = from + 1; heel <= course.last + 2; heel++) {
                    aims[heel] = slip[0] * odds[heel - 1] + slip[1] * odds[heel] + slip[2] * odds[heel + 1];
                }
                for (int heel = from; heel <= course.last; heel++) {
                    odds[heel] = course.lawful[heel] ? aimFrom(course, heel, bestStep(course, heel)) : 0;
                }
            }
            // Where the first FOOT itself is not LAWFUL every step is as good.
            boldest = course.lawful[from] ? bestStep(course, from) : course.least;
            return odds[from];
        }

        /** What it is worth to step from a HEEL; all aims farther than two behind the last HEEL are alike. */
        private long aimFrom(Course course, int heel, int step) {
            return aims[Math.min(heel + step, course.last + 2)];
        }

        /** The least of the steps that are worth most. */
        private int bestStep(Course course, int heel) {
            int best = course.least;
            long worth = aimFrom(course, heel, best);
            for (int step = best + 1; step <= course.most && heel + step <= course.last + 2; step++) {
                if (aims[heel + step] > worth) {
                    best = step;
                    worth = aims[heel + step];
                }
            }
            return best;
        }

        /** The first step of what was BRAVE last. */
        int boldestStep() {
            return boldest;
        }
    }

    /** What is so in earnest, with the ACTS that can be undone and redone, and the BOXES. */
    private static final class Earnest {
        static final int WHO = 0;
        static final int WHERE = 1;
        static final int HEEL = 2;
        static final int FEET = 3;
        static final int HOW = 4;
        static final int LEAPT = 5;
        static final int TODAY = 6;
        static final int SEED = 7;
        static final int FORCE = 8;
        static final int RAIN = 9;
        private static final int ALL = 10;
        private static final int MOST_ACTS = 40;
        private static final int BOXES = 3;

        final int[] now = new int[ALL];
        // What was so ahead of the first ACT that is kept, and behind each one.
        private final int[] kept = new int[(MOST_ACTS + 1) * ALL];
        private final int[] boxes = new int[BOXES * ALL];
        private int full;
        int done;
        int undone;

        void startAnew(int draw) {
            Arrays.fill(now, 0);
            now[WHO] = NONE;
            now[SEED] = draw;
            full = 0;
            forgetActs();
        }

        private void forgetActs() {
            done = 0;
            undone = 0;
            System.arraycopy(now, 0, kept, 0, ALL);
        }

        void setOut(int walker, int street, int heel) {
            now[WHO] = walker;
            now[WHERE] = street;
            now[HEEL] = heel;
            now[FEET] = 1;
            now[HOW] = UP;
            now[LEAPT] = 0;
        }

        void drawSeed() {
            now[SEED] = (now[SEED] * 137 + 71) % 1000;
        }

        void keepAct() {
            if (done >= MOST_ACTS) {
                System.arraycopy(kept, ALL, kept, 0, MOST_ACTS * ALL);
                done = MOST_ACTS - 1;
            }
            done++;
            undone = 0;
            System.arraycopy(now, 0, kept, done * ALL, ALL);
        }

        boolean takeBack() {
            if (done <= 0) {
                return false;
            }
            done--;
            undone++;
            System.arraycopy(kept, done * ALL, now, 0, ALL);
            return true;
        }

        boolean doAgain() {
            if (undone <= 0) {
                return false;
            }
            done++;
            undone--;
            System.arraycopy(kept, done * ALL, now, 0, ALL);
            return true;
        }

        boolean keepIn(int box) {
            if (box < 0 || box >= BOXES) {
                return false;
            }
            System.arraycopy(now, 0, boxes, box * ALL, ALL);
            full |= 1 << box;
            return true;
        }

        boolean bringFrom(int box) {
            if (box < 0 || box >= BOXES || (full >> box & 1) == 0) {
                return false;
            }
            System.arraycopy(boxes, box * ALL, now, 0, ALL);
            forgetActs();
            return true;
        }
    }

    /** The SIGHTS, and the TIME at which they are TOLD and UNTOLD. */
    private static final class Sights {
        private static final int MOST_SIGHTS = 20;

        final int[] walker = new int[MOST_SIGHTS];
        final int[] street = new int[MOST_SIGHTS];
        final int[] heel = new int[MOST_SIGHTS];
        private final int[] told = new int[MOST_SIGHTS];
        private final int[] untold = new int[MOST_SIGHTS];
        int count;
        int time;

        int tell(int who, int where, int x) {
            if (count >= MOST_SIGHTS) {
                return NONE;
            }
            walker[count] = who;
            street[count] = where;
            heel[count] = x;
            told[count] = time;
            untold[count] = NONE;
            return count++;
        }

        boolean takeFrom(int sight) {
            if (sight < 0 || sight >= count || untold[sight] != NONE) {
                return false;
            }
            untold[sight] = time;
            return true;
        }

        boolean counts(int sight, int k) {
            return told[sight] <= k && (untold[sight] == NONE || untold[sight] > k);
        }
    }
}
