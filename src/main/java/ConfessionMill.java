import java.util.Arrays;
import java.util.NoSuchElementException;

/** A mill that grinds by what is confessed; the numbered promises of the document say what each call answers. */
public final class ConfessionMill {
    public static final int NONE = -1;

    private static final int REFUSED = -2;
    private static final int NOTHING = -3;
    private static final long ERROR = Long.MIN_VALUE;

    private static final int TAPE = 700;
    private static final int FED = 20;
    private static final int LAST_DAY = 100;
    private static final int FINEST = 999;
    private static final int MOST_UNDOS = 20;
    private static final int MOST_SACKS = 60;
    private static final int MOST_DONE = 99;
    private static final int MOST_LIES = 40;
    private static final int MOST_PLANNED = 4;
    private static final int MOST_ROW = 10;

    private static final int SIN = 0;
    private static final int PERSON = 1;
    private static final int CAKE = 2;
    private static final int MAY = 3;
    private static final int KINDS = 4;
    private static final int MOST_SINS = 4;
    private static final int MOST_PEOPLE = 5;
    private static final int MOST_CAKES = 5;
    private static final int MOST_NAMES = 5;
    private static final int[] MOST = {4, 5, 5, 3};
    private static final int SLOTS = MOST_PEOPLE * MOST_SINS;

    private static final int GRIND = 0;
    private static final int WEAR = 1;
    private static final int WANT = 2;
    private static final int PAIR = 3;
    private static final int INSTEAD = 4;
    private static final int LAWS = 7;

    private static final int AS_IT_IS = -1;
    private static final int UNWORN = 0;
    private static final int SILENT = 1;
    private static final int SPARED = 2;
    private static final int LEAST = 3;
    private static final int GREATEST = 4;

    // What is undone is one number: a confession, then the slots of falls, then the cakes.
    private static final int CONFESSION = 0;
    private static final int FALL = 1;
    private static final int BAKING = FALL + SLOTS;

    private final int[] tape = new int[TAPE];
    private int tapeSize;
    private final Reader reader = new Reader();
    private Telling told = new Telling();
    private final Works now = new Works(told);
    private final Works image = new Works(told);
    private final Works trial = new Works(told);
    private final Planner planner = new Planner(trial);
    private final Couples couples = new Couples();
    private final int[] undos = new int[MOST_UNDOS];
    private int undoSize;
    private boolean imageKept;
    private int fault;
    private int faultPlace = NONE;

    public ConfessionMill() {
    }

    // ---- the text ----

    public int feed(int a, int b, int c, int d, int e) {
        if (tapeSize + FED > TAPE) {
            return NONE;
        }
        putFour(a);
        putFour(b);
        putFour(c);
        putFour(d);
        putFour(e);
        return tapeSize;
    }

    private void putFour(int number) {
        for (int shift = 24; shift >= 0 && tapeSize < TAPE; shift -= 8) {
            tape[tapeSize] = number >>> shift & 255;
            tapeSize++;
        }
    }

    public int text(int n) {
        if (n < 0 || n > tapeSize) {
            return REFUSED;
        }
        tapeSize = 0;
        int lines = reader.readAll(tape, n);
        fault = reader.fault;
        faultPlace = reader.faultPlace;
        if (fault != 0) {
            return NONE;
        }
        told = reader.handOver(told);
        now.begin(told);
        imageKept = false;
        undoSize = 0;
        planner.forget();
        return lines;
    }

    public int fault(int what) {
        switch (what) {
            case 0: return fault;
            case 1: return faultPlace;
            default: return NONE;
        }
    }

    public int named(int what, int letters) {
        return what < 0 || what >= KINDS ? NONE : told.find(what, letters);
    }

    // ---- people and laws ----

    public int look(int person, int what) throws IndexOutOfBoundsException, NoSuchElementException {
        if (!told.has(PERSON, person)) {
            throw new IndexOutOfBoundsException("no such person");
        }
        switch (what) {
            case 0: return told.honest[person];
            case 1: return now.times[person];
            case 2: return now.invented[person];
            case 3: return now.prideOf(person);
            case 4: return now.falls[person];
            default: throw new NoSuchElementException("no such what");
        }
    }

    public int did(int person, int sin, int what) {
        if (!told.hasBoth(person, sin)) {
            return NONE;
        }
        switch (what) {
            case 0: return now.done[person * MOST_SINS + sin];
            case 1: return now.leftOf(person, sin);
            default: return NONE;
        }
    }

    public int fine(int person, int sin) {
        return told.hasBoth(person, sin) ? now.fineOf(person, sin) : NONE;
    }

    public long law(int what, int person, int sin) {
        switch (what) {
            case GRIND:
            case WEAR: return told.hasBoth(person, sin) ? now.valueOf(what, person, sin) : ERROR;
            case WANT: return told.hasBoth(person, sin) && now.leftOf(person, sin) > 0
                ? now.valueOf(what, person, sin) : ERROR;
            case PAIR: return told.has(PERSON, person) && told.has(PERSON, sin) && person < sin
                ? now.pairValue(person, sin) : ERROR;
            default: return ERROR;
        }
    }

    // ---- what is confessed, fallen, baked ----

    public int confess(int person, int sin) {
        if (!told.hasBoth(person, sin)) {
            return NONE;
        }
        return now.canGrind() ? confessByCall(person, sin) : REFUSED;
    }

    private int confessByCall(int person, int sin) {
        now.grindOne(person, sin, true);
        remember(CONFESSION);
        return now.sacks.size - 1;
    }

    public int ask(int person) {
        if (!told.has(PERSON, person)) {
            return NONE;
        }
        if (!now.canGrind()) {
            return REFUSED;
        }
        int sin = now.sinByChance(person);
        return told.has(SIN, sin) ? confessByCall(person, sin) : NOTHING;
    }

    public int fall(int person, int sin) {
        if (!told.hasBoth(person, sin)) {
            return NONE;
        }
        if (!now.canFall(person, sin)) {
            return REFUSED;
        }
        now.fallOnce(person, sin);
        remember(FALL + person * MOST_SINS + sin);
        return now.falls[person];
    }

    private void remember(int what) {
        planner.forget();
        if (undoSize >= MOST_UNDOS) {
            System.arraycopy(undos, 1, undos, 0, MOST_UNDOS - 1);
            undoSize = MOST_UNDOS - 1;
        }
        undos[undoSize] = what;
        undoSize++;
    }

    public int sack(int sack, int what) {
        if (!now.sacks.has(sack)) {
            return NONE;
        }
        switch (what) {
            case 0: return now.sacks.person[sack];
            case 1: return now.sacks.sin[sack];
            case 2: return now.sacks.fine[sack];
            case 3: return now.sacks.held[sack];
            case 4: return now.sacks.lieBy(sack, now.sacks.sin[sack]);
            default: return NONE;
        }
    }

    public int flour(int fine) {
        return isFine(fine) ? now.sacks.flourFrom(fine) : NONE;
    }

    private static boolean isFine(int fine) {
        return fine >= 0 && fine <= FINEST;
    }

    public boolean bake(int cake) {
        if (!told.has(CAKE, cake) || now.day > told.cakeDay[cake] || !now.bakeOne(cake)) {
            return false;
        }
        remember(BAKING + cake);
        return true;
    }

    public int baked(int cake) {
        if (!told.has(CAKE, cake)) {
            return NONE;
        }
        return now.isBaked(cake) ? now.bakedOn[cake] : REFUSED;
    }

    public int days(int n) {
        if (!areDays(n)) {
            return NONE;
        }
        for (int k = 0; k < n; k++) {
            now.confessOfDay(AS_IT_IS, 0);
            now.bakeOfDay();
            now.day++;
        }
        if (n > 0) {
            undoSize = 0;
            planner.forget();
        }
        return now.day;
    }

    private boolean areDays(int n) {
        return n >= 0 && n <= LAST_DAY - now.day;
    }

    // ---- what is thought about it ----

    public int plan(int cake, int what) {
        if (!isOpen(cake) || what < 0 || what > 1) {
            return NONE;
        }
        planner.planFor(now, cake);
        if (!planner.isThere(cake)) {
            return REFUSED;
        }
        return what == 0 ? planner.falls[cake] : planner.steps[cake];
    }

    public int planned(int cake, int k, int what) {
        if (!isOpen(cake) || k < 0 || what < 0 || what > 1) {
            return NONE;
        }
        planner.planFor(now, cake);
        if (!planner.isThere(cake) || k >= planner.steps[cake]) {
            return REFUSED;
        }
        int slot = planner.stepOf(cake, k);
        return what == 0 ? slot / MOST_SINS : slot % MOST_SINS;
    }

    private boolean isOpen(int cake) {
        return told.has(CAKE, cake) && !now.isBaked(cake);
    }

    public int crumb(int sack, int what) {
        if (!now.sacks.has(sack) || what < 0 || what > 3) {
            return NONE;
        }
        int truly = 0;
        int invented = 0;
        for (int sin = 0; sin < told.sizes[SIN]; sin++) {
            if (now.fineThen(sack, GRIND, sin) != now.sacks.fine[sack]) {
                continue;
            }
            if (now.sacks.lieBy(sack, sin) == 0) {
                truly |= 1 << sin;
            } else {
                invented |= 1 << sin;
            }
        }
        switch (what) {
            case 0: return truly;
            case 1: return invented;
            default: return oddsOfLie(sack, truly, invented, what == 2);
        }
    }

    private int oddsOfLie(int sack, int truly, int invented, boolean above) {
        int honest = told.honest[now.sacks.person[sack]];
        int lies = Integer.bitCount(invented) * (100 - honest);
        int all = lies + Integer.bitCount(truly) * honest;
        int common = commonDivisor(lies, all);
        if (common == 0) {
            return above ? 0 : 1;
        }
        return (above ? lies : all) / common;
    }

    private static int commonDivisor(int a, int b) {
        int greater = a;
        int less = b;
        for (int k = 0; k < 64 && less > 0; k++) {
            int rest = greater % less;
            greater = less;
            less = rest;
        }
        return greater;
    }

    public int run(int n, int fine) {
        return areDays(n) && isFine(fine) ? flourOfRun(AS_IT_IS, 0, n, fine) : NONE;
    }

    public int tried(int what, int i, int n, int fine) {
        if (!areDays(n) || !isFine(fine) || !isTrial(what, i)) {
            return NONE;
        }
        return flourOfRun(what, i, n, fine);
    }

    private boolean isTrial(int what, int i) {
        switch (what) {
            case UNWORN:
            case LEAST:
            case GREATEST: return i == 0;
            case SILENT: return told.has(PERSON, i);
            case SPARED: return told.has(SIN, i);
            default: return false;
        }
    }

    // What a run bakes counts as flour and bars no confession, so the run leaves it in its sacks.
    private int flourOfRun(int what, int i, int n, int fine) {
        trial.copyFrom(now);
        for (int k = 0; k < n; k++) {
            trial.confessOfDay(what, i);
            trial.day++;
        }
        return trial.sacks.flourFrom(fine);
    }

    public int mills(int n, int row, int what) {
        if (n < 1 || n > MOST_ROW || what < 0 || what > 1 || !isRow(n, row)) {
            return NONE;
        }
        int least = Integer.MAX_VALUE;
        int second = 0;
        for (int bits = 0; bits < 1 << n; bits++) {
            int greater = greaterSum(n, row, bits);
            if (greater < least) {
                least = greater;
                second = bits;
            }
        }
        return what == 0 ? least : second;
    }

    private boolean isRow(int n, int row) {
        for (int k = 0; k < n; k++) {
            if (!told.has(SIN, row >> 2 * k & 3)) {
                return false;
            }
        }
        return true;
    }

    private int greaterSum(int n, int row, int bits) {
        int first = 0;
        int second = 0;
        for (int k = 0; k < n; k++) {
            int worth = told.worth[row >> 2 * k & 3];
            if ((bits >> k & 1) == 0) {
                first += worth;
            } else {
                second += worth;
            }
        }
        return Math.max(first, second);
    }

    public long pairs() {
        if (told.sizes[PERSON] == 0) {
            return ERROR;
        }
        couples.bringTogether(now);
        return couples.most;
    }

    public int paired(int person) {
        if (!told.has(PERSON, person)) {
            return NONE;
        }
        couples.bringTogether(now);
        int partner = couples.best[person];
        return partner == NONE ? REFUSED : partner;
    }

    public int lies(int seed, int person, int n) {
        if (seed < 0 || !told.has(PERSON, person) || n < 1 || n > MOST_LIES) {
            return NONE;
        }
        trial.copyFrom(now);
        trial.drawn = seed;
        int lies = 0;
        for (int k = 0; k < n; k++) {
            int sin = trial.sinByChance(person);
            if (told.has(SIN, sin) && trial.leftOf(person, sin) == 0) {
                lies++;
            }
        }
        return lies;
    }

    public boolean known(int n) {
        if (n < NONE || n > now.sacks.size) {
            return false;
        }
        now.known = n;
        return true;
    }

    public int fits() {
        int mays = told.sizes[MAY];
        int bits = 0;
        for (int k = 0; k < mays; k++) {
            bits |= now.isFitting(INSTEAD + k) ? 1 << k : 0;
        }
        return now.isFitting(GRIND) ? bits | 1 << mays : bits;
    }

    // ---- undone, images, counts ----

    public int undo() {
        if (undoSize <= 0) {
            return NONE;
        }
        undoSize--;
        planner.forget();
        int what = undos[undoSize];
        if (what >= BAKING) {
            now.unbake(what - BAKING);
        } else if (what >= FALL) {
            now.unfall((what - FALL) / MOST_SINS, (what - FALL) % MOST_SINS);
        } else {
            now.ungrind();
        }
        return undoSize;
    }

    public int keep() {
        image.copyFrom(now);
        imageKept = true;
        return now.day;
    }

    public int back() {
        if (!imageKept) {
            return NONE;
        }
        now.copyFrom(image);
        undoSize = 0;
        planner.forget();
        return now.day;
    }

    public int count(int what) {
        switch (what) {
            case 0: return told.sizes[SIN];
            case 1: return told.sizes[PERSON];
            case 2: return told.sizes[CAKE];
            case 3: return told.sizes[MAY];
            case 4: return told.laws.knots;
            case 5: return now.day;
            case 6: return now.sacks.size;
            case 7: return now.known;
            case 8: return undoSize;
            case 9: return now.grain;
            case 10: return now.worn;
            case 11: return now.sacks.flourFrom(0);
            default: return NONE;
        }
    }

    /** Every E as a row of knots, both sides ahead of their sign, and the names it is worked out with. */
    private static final class Laws {
        static final int MOST_KNOTS = 64;
        static final int NAMES = 7;
        static final int NUMBER = 0;
        static final int NAME = 1;
        static final int OR = 2;
        static final int AND = 3;
        static final int NOT = 4;
        static final int LESS = 5;
        static final int LESS_OR_SAME = 6;
        static final int SAME = 7;
        static final int OTHER = 8;
        static final int MORE_OR_SAME = 9;
        static final int MORE = 10;
        static final int PLUS = 11;
        static final int MINUS = 12;
        static final int TIMES = 13;
        static final int BY = 14;
        static final long FARTHEST = 1000000000000L;

        private final int[] sign = new int[MOST_KNOTS];
        private final int[] number = new int[MOST_KNOTS];
        private final int[] from = new int[LAWS];
        private final int[] behind = new int[LAWS];
        private final long[] name = new long[NAMES];
        private final long[] sides = new long[MOST_KNOTS];
        private int size;
        private int knots;

        void clear() {
            Arrays.fill(from, 0);
            Arrays.fill(behind, 0);
            size = 0;
            knots = 0;
        }

        boolean isTold(int law) {
            return law >= 0 && law < LAWS && behind[law] > from[law];
        }

        void begin(int law) {
            if (law >= 0 && law < LAWS) {
                from[law] = size;
            }
        }

        void finish(int law) {
            if (law >= 0 && law < LAWS) {
                behind[law] = size;
            }
        }

        void write(int knot, int what) {
            if (size < MOST_KNOTS) {
                sign[size] = knot;
                number[size] = what;
                size++;
            }
        }

        void setNames(int worth, int times, int worn, int pride, int lie, int honest, int day) {
            name[0] = worth;
            name[1] = times;
            name[2] = worn;
            name[3] = pride;
            name[4] = lie;
            name[5] = honest;
            name[6] = day;
        }

        /** E by the names that were set; ERROR also if there is no such law. */
        long value(int law) {
            if (!isTold(law)) {
                return ERROR;
            }
            int height = 0;
            for (int k = from[law]; k < behind[law] && k < MOST_KNOTS; k++) {
                int knot = sign[k];
                int what = number[k];
                if (knot <= NAME && height < MOST_KNOTS) {
                    sides[height] = knot == NAME && what >= 0 && what < NAMES ? name[what] : what;
                    height++;
                } else if (knot == NOT && height >= 1) {
                    sides[height - 1] = sides[height - 1] == 0 ? 1 : 0;
                } else if (height >= 2) {
                    height--;
                    long joined = join(knot, sides[height - 1], sides[height]);
                    if (joined > FARTHEST || joined < -FARTHEST) {
                        return ERROR;
                    }
                    sides[height - 1] = joined;
                }
            }
            return sides[0];
        }

        /** What a sign makes of both sides; ERROR, where that can't be told. */
        private static long join(int knot, long a, long b) {
            switch (knot) {
                case OR: return a != 0 || b != 0 ? 1 : 0;
                case AND: return a != 0 && b != 0 ? 1 : 0;
                case LESS: return a < b ? 1 : 0;
                case LESS_OR_SAME: return a <= b ? 1 : 0;
                case SAME: return a == b ? 1 : 0;
                case OTHER: return a != b ? 1 : 0;
                case MORE_OR_SAME: return a >= b ? 1 : 0;
                case MORE: return a > b ? 1 : 0;
                case PLUS: return a + b;
                case MINUS: return a - b;
                case BY: return b == 0 ? ERROR : a / b;
                default:
                    // Two far sides would wrap around, so their product is weighed ahead of it.
                    long most = b == 0 ? FARTHEST : FARTHEST / (b < 0 ? -b : b);
                    return a > most || a < -most ? ERROR : a * b;
            }
        }
    }

    /** What a text tells: it stays as it is until the next text. */
    private static final class Telling {
        private final Laws laws = new Laws();
        private final int[] codes = new int[KINDS * MOST_NAMES];
        private final int[] sizes = new int[KINDS];
        private final int[] worth = new int[MOST_SINS];
        private final int[] honest = new int[MOST_PEOPLE];
        private final int[] deeds = new int[SLOTS];
        private final int[] cakeFine = new int[MOST_CAKES];
        private final int[] cakeFlour = new int[MOST_CAKES];
        private final int[] cakeDay = new int[MOST_CAKES];
        private int grain = 100;
        private int grist = 5;
        private int stone;
        private int seed;

        void clear() {
            laws.clear();
            Arrays.fill(sizes, 0);
            Arrays.fill(deeds, 0);
            grain = 100;
            grist = 5;
            stone = 0;
            seed = 0;
        }

        boolean has(int kind, int k) {
            return k >= 0 && k < sizes[kind];
        }

        boolean hasBoth(int person, int sin) {
            return has(PERSON, person) && has(SIN, sin);
        }

        boolean isFull(int kind) {
            return sizes[kind] >= MOST[kind];
        }

        int find(int kind, int code) {
            for (int k = 0; k < sizes[kind]; k++) {
                if (codes[kind * MOST_NAMES + k] == code) {
                    return k;
                }
            }
            return NONE;
        }

        void add(int kind, int code) {
            if (!isFull(kind)) {
                codes[kind * MOST_NAMES + sizes[kind]] = code;
                sizes[kind]++;
            }
        }

        /** FINE by a law that grinds, by the names that were set. */
        int fineness(int law, int sin) {
            long value = laws.value(law);
            return value == ERROR ? worth[sin] : (int) Math.max(0, Math.min(FINEST, value));
        }
    }

    /** The tokens of a text, with their places; behind the last one there is an END at the length. */
    private static final class Tokens {
        static final int WORD_SIN = 0;
        static final int WORD_PERSON = 1;
        static final int WORD_DID = 2;
        static final int WORD_CAKE = 3;
        static final int WORD_GRAIN = 4;
        static final int WORD_GRIST = 5;
        static final int WORD_STONE = 6;
        static final int WORD_SEED = 7;
        static final int WORD_LAW = 8;
        static final int WORD_MAY = 9;
        static final int WORD_GRIND = 10;
        static final int WORD_PAIR = 13;
        static final int WORD_OR = 14;
        static final int WORD_AND = 15;
        static final int WORD_NOT = 16;
        static final int WORD_WORTH = 17;
        private static final int WORDS = 24;
        private static final String LINE_WORDS = "sin person did cake grain grist stone seed law may grind wear want pair ";
        private static final String E_WORDS = "or and not worth times worn pride lie honest day ";

        static final int END = 0;
        static final int FREE_WORD = 1;
        static final int LANGUAGE = 2;
        static final int DIGITS = 3;
        static final int SIGN = 4;
        static final int STRANGE = 5;

        static final int OPEN = 15;
        static final int CLOSE = 16;
        static final int SEMICOLON = 17;

        private static final int LONGEST_WORD = 6;
        // Beyond every bound of the document, so a longer row of digits is as much too much.
        private static final int BEYOND = 1000000;

        private final int[] words = new int[WORDS];
        private final int[] kind = new int[TAPE + 1];
        private final int[] place = new int[TAPE + 1];
        private final int[] value = new int[TAPE + 1];
        private int size;
        private int length;
        private int at;

        Tokens() {
            learn(E_WORDS, learn(LINE_WORDS, 0));
        }

        private int learn(String row, int first) {
            int word = first;
            int letters = 0;
            for (int k = 0; k < row.length() && word < WORDS; k++) {
                char letter = row.charAt(k);
                if (letter == ' ') {
                    word++;
                    letters = 0;
                } else {
                    words[word] |= packed(letter, letters);
                    letters++;
                }
            }
            return word;
        }

        private static int packed(int letter, int ahead) {
            return ahead < LONGEST_WORD ? letter - 'a' + 1 << 25 - 5 * ahead : 0;
        }

        private static boolean isLetter(int sign) {
            return sign >= 'a' && sign <= 'z';
        }

        private static boolean isDigit(int sign) {
            return sign >= '0' && sign <= '9';
        }

        void readAll(int[] bytes, int n) {
            length = Math.max(0, Math.min(TAPE, Math.min(n, bytes.length)));
            size = 0;
            at = 0;
            for (int k = 0; k < TAPE && at < length; k++) {
                int sign = bytes[at];
                place[size] = at;
                if (sign == 10 || sign == 32) {
                    at++;
                } else if (isLetter(sign)) {
                    readWord(bytes);
                } else if (isDigit(sign)) {
                    readDigits(bytes);
                } else {
                    at++;
                    readSign(sign, at < length ? bytes[at] : 0);
                }
            }
            place[size] = length;
            add(END, 0);
        }

        private void add(int aKind, int aValue) {
            if (size <= TAPE) {
                kind[size] = aKind;
                value[size] = aValue;
                size++;
            }
        }

        private void readWord(int[] bytes) {
            int from = at;
            int code = 0;
            while (at < length && isLetter(bytes[at])) {
                code |= packed(bytes[at], at - from);
                at++;
            }
            if (at - from > LONGEST_WORD) {
                add(STRANGE, 0);
                return;
            }
            for (int k = 0; k < WORDS; k++) {
                if (words[k] == code) {
                    add(LANGUAGE, k);
                    return;
                }
            }
            add(FREE_WORD, code);
        }

        private void readDigits(int[] bytes) {
            int number = 0;
            while (at < length && isDigit(bytes[at])) {
                number = Math.min(BEYOND, number * 10 + bytes[at] - '0');
                at++;
            }
            add(DIGITS, number);
        }

        private void readSign(int sign, int behind) {
            switch (sign) {
                case ';': add(SIGN, SEMICOLON); break;
                case '(': add(SIGN, OPEN); break;
                case ')': add(SIGN, CLOSE); break;
                case '+': add(SIGN, Laws.PLUS); break;
                case '-': add(SIGN, Laws.MINUS); break;
                case '*': add(SIGN, Laws.TIMES); break;
                case '/': add(SIGN, Laws.BY); break;
                case '=': add(SIGN, Laws.SAME); break;
                case '<':
                    add(SIGN, behind == '=' ? Laws.LESS_OR_SAME : behind == '>' ? Laws.OTHER : Laws.LESS);
                    at += behind == '=' || behind == '>' ? 1 : 0;
                    break;
                case '>':
                    add(SIGN, behind == '=' ? Laws.MORE_OR_SAME : Laws.MORE);
                    at += behind == '=' ? 1 : 0;
                    break;
                default: add(STRANGE, 0); break;
            }
        }
    }

    /** Reads a text, token by token, into a telling of its own, up to the first fault. */
    private static final class Reader {
        private static final int CANNOT_STAND = 1;
        private static final int TOO_MUCH = 2;
        private static final int TOLD_ALREADY = 3;
        private static final int NOT_TOLD = 4;
        private static final int MOST_OPEN = 8;
        private static final int LARGEST_NUMBER = 9999;
        // How tightly a knot binds, by its number in Laws; an open bracket binds nothing.
        private static final int[] BINDS = {0, 0, 1, 2, 3, 4, 4, 4, 4, 4, 4, 5, 5, 6, 6, 0};
        private static final int COMPARED = 4;

        private final Tokens tokens = new Tokens();
        private Telling into = new Telling();
        private int at;
        private int kind;
        private int value;
        private int word;
        private int toldOnce;
        private int fault;
        private int faultPlace;

        // Those knots of an E that are not yet written, and what may come next in it.
        private final int[] waiting = new int[Laws.MOST_KNOTS + MOST_OPEN];
        private int waits;
        private int open;
        private boolean wantsSide;
        private boolean notMayStand;

        /** Gives what was read away and takes the old telling to read into next. */
        Telling handOver(Telling old) {
            Telling read = into;
            into = old;
            return read;
        }

        int readAll(int[] bytes, int n) {
            tokens.readAll(bytes, n);
            into.clear();
            fault = 0;
            faultPlace = NONE;
            toldOnce = 0;
            at = NONE;
            next();
            int lines = 0;
            while (lines < TAPE && fault == 0 && kind != Tokens.END) {
                readLine();
                lines++;
            }
            return lines;
        }

        private void next() {
            if (at < tokens.size - 1) {
                at++;
            }
            kind = tokens.kind[at];
            value = tokens.value[at];
            word = kind == Tokens.LANGUAGE ? value : NONE;
        }

        private void fail(int what) {
            if (fault == 0) {
                fault = what;
                faultPlace = tokens.place[at];
            }
        }

        private boolean isSign(int sign) {
            return kind == Tokens.SIGN && value == sign;
        }

        // ---- lines ----

        private void readLine() {
            switch (word) {
                case Tokens.WORD_SIN: readSin(); break;
                case Tokens.WORD_PERSON: readPerson(); break;
                case Tokens.WORD_CAKE: readCake(); break;
                case Tokens.WORD_GRAIN: into.grain = readOnce(0, 9999); break;
                case Tokens.WORD_GRIST: into.grist = readOnce(1, 99); break;
                case Tokens.WORD_STONE: into.stone = readOnce(0, 999); break;
                case Tokens.WORD_SEED: into.seed = readOnce(0, 99999); break;
                case Tokens.WORD_LAW: readE(readKind()); break;
                case Tokens.WORD_MAY: readE(INSTEAD + readNew(MAY)); break;
                default: fail(CANNOT_STAND); break;
            }
            if (!isSign(Tokens.SEMICOLON)) {
                fail(CANNOT_STAND);
            }
            if (fault == 0) {
                next();
            }
        }

        private void readSin() {
            int sin = readNew(SIN);
            int worth = readNumber(0, 99);
            if (fault == 0) {
                into.worth[sin] = worth;
            }
        }

        private void readPerson() {
            int person = readNew(PERSON);
            int honest = readNumber(0, 100);
            if (fault == 0) {
                into.honest[person] = honest;
            }
            for (int k = 0; k < TAPE && fault == 0 && word == Tokens.WORD_DID; k++) {
                next();
                readDeed(person);
            }
        }

        private void readDeed(int person) {
            int sin = into.find(SIN, value);
            if (kind != Tokens.FREE_WORD) {
                fail(CANNOT_STAND);
            } else if (sin == NONE) {
                fail(NOT_TOLD);
            } else if (into.deeds[person * MOST_SINS + sin] != 0) {
                fail(TOLD_ALREADY);
            } else {
                next();
                into.deeds[person * MOST_SINS + sin] = readNumber(1, 9);
            }
        }

        private void readCake() {
            int cake = readNew(CAKE);
            int fine = readNumber(0, FINEST);
            int flour = readNumber(1, 99);
            int day = readNumber(0, 99);
            if (fault == 0) {
                into.cakeFine[cake] = fine;
                into.cakeFlour[cake] = flour;
                into.cakeDay[cake] = day;
            }
        }

        /** The law that a KIND names, 0 with a fault. */
        private int readKind() {
            next();
            int law = word - Tokens.WORD_GRIND;
            if (word < Tokens.WORD_GRIND || word > Tokens.WORD_PAIR) {
                fail(CANNOT_STAND);
                return 0;
            }
            if (into.laws.isTold(law)) {
                fail(TOLD_ALREADY);
                return 0;
            }
            next();
            return law;
        }

        /** A line's name that is new to its kind: its number, 0 with a fault. */
        private int readNew(int what) {
            int number = into.sizes[what];
            if (into.isFull(what)) {
                fail(TOO_MUCH);
                return 0;
            }
            next();
            if (kind != Tokens.FREE_WORD) {
                fail(CANNOT_STAND);
                return 0;
            }
            if (into.find(what, value) != NONE) {
                fail(TOLD_ALREADY);
                return 0;
            }
            into.add(what, value);
            next();
            return number;
        }

        private int readOnce(int least, int most) {
            int bit = 1 << word;
            if ((toldOnce & bit) != 0) {
                fail(TOLD_ALREADY);
                return least;
            }
            toldOnce |= bit;
            next();
            return readNumber(least, most);
        }

        private int readNumber(int least, int most) {
            if (kind != Tokens.DIGITS) {
                fail(CANNOT_STAND);
            } else if (value < least || value > most) {
                fail(TOO_MUCH);
            }
            if (fault != 0) {
                return least;
            }
            int number = value;
            next();
            return number;
        }

        // ---- E: knots wait until what binds more tightly is written ----

        private void readE(int law) {
            waits = 0;
            open = 0;
            wantsSide = true;
            notMayStand = true;
            into.laws.begin(law);
            boolean goesOn = true;
            for (int k = 0; k < TAPE && fault == 0 && goesOn; k++) {
                if (wantsSide) {
                    readSide();
                } else {
                    goesOn = readBehindSide();
                }
            }
            release(0);
            into.laws.finish(law);
        }

        private void readSide() {
            if (isSign(Tokens.OPEN)) {
                readOpen();
            } else if (word == Tokens.WORD_NOT && notMayStand) {
                if (countKnot()) {
                    push(Laws.NOT);
                }
            } else if (kind == Tokens.DIGITS) {
                if (value > LARGEST_NUMBER) {
                    fail(TOO_MUCH);
                }
                writeSide(Laws.NUMBER, value);
            } else if (word >= Tokens.WORD_WORTH) {
                writeSide(Laws.NAME, word - Tokens.WORD_WORTH);
            } else {
                fail(CANNOT_STAND);
            }
        }

        private void readOpen() {
            if (open >= MOST_OPEN) {
                fail(TOO_MUCH);
                return;
            }
            open++;
            notMayStand = true;
            push(Tokens.OPEN);
        }

        private void writeSide(int knot, int what) {
            if (countKnot()) {
                into.laws.write(knot, what);
                wantsSide = false;
                next();
            }
        }

        /** Whether E goes on behind a side. */
        private boolean readBehindSide() {
            int knot = knotHere();
            if (knot != NONE) {
                readJoint(knot);
                return true;
            }
            if (open == 0 || !isSign(Tokens.CLOSE)) {
                if (open > 0) {
                    fail(CANNOT_STAND);
                }
                return false;
            }
            release(1);
            waits = Math.max(0, waits - 1);
            open--;
            next();
            return true;
        }

        private int knotHere() {
            if (kind == Tokens.SIGN && value >= Laws.LESS && value <= Laws.BY) {
                return value;
            }
            return word == Tokens.WORD_OR ? Laws.OR : word == Tokens.WORD_AND ? Laws.AND : NONE;
        }

        private void readJoint(int knot) {
            int binds = BINDS[knot];
            boolean compares = binds == COMPARED;
            release(compares ? COMPARED + 1 : binds);
            if (compares && waits > 0 && BINDS[waiting[waits - 1]] == COMPARED) {
                fail(CANNOT_STAND);
            } else if (countKnot()) {
                wantsSide = true;
                notMayStand = binds < COMPARED;
                push(knot);
            }
        }

        private boolean countKnot() {
            if (into.laws.knots >= Laws.MOST_KNOTS) {
                fail(TOO_MUCH);
            }
            if (fault != 0) {
                return false;
            }
            into.laws.knots++;
            return true;
        }

        /** Lets a knot wait, and goes on behind it. */
        private void push(int knot) {
            if (waits < waiting.length) {
                waiting[waits] = knot;
                waits++;
            }
            next();
        }

        /** Writes those that wait, the latest first, as long as they bind at least so tightly. */
        private void release(int binds) {
            while (waits > 0 && BINDS[waiting[waits - 1]] >= binds) {
                waits--;
                into.laws.write(waiting[waits], 0);
            }
        }
    }

    /** Sacks in the order they were filled, each with all that its FINE came from. */
    private static final class Sacks {
        private final int[] person = new int[MOST_SACKS];
        private final int[] sin = new int[MOST_SACKS];
        private final int[] fine = new int[MOST_SACKS];
        private final int[] ground = new int[MOST_SACKS];
        private final int[] held = new int[MOST_SACKS];
        private final int[] times = new int[MOST_SACKS];
        private final int[] worn = new int[MOST_SACKS];
        private final int[] pride = new int[MOST_SACKS];
        private final int[] day = new int[MOST_SACKS];
        private final int[] leftBits = new int[MOST_SACKS];
        private int size;

        boolean has(int sack) {
            return sack >= 0 && sack < size;
        }

        boolean isFull() {
            return size >= MOST_SACKS;
        }

        int lieBy(int sack, int aSin) {
            return (leftBits[sack] >> aSin & 1) == 0 ? 1 : 0;
        }

        int flourFrom(int least) {
            int sum = 0;
            for (int k = 0; k < size; k++) {
                sum += fine[k] >= least ? held[k] : 0;
            }
            return sum;
        }

        /** The sack that a cake takes from next: the least FINE that will do, the oldest of several. */
        int coarsestFrom(int least) {
            int best = NONE;
            for (int k = 0; k < size; k++) {
                if (held[k] > 0 && fine[k] >= least && (best == NONE || fine[k] < fine[best])) {
                    best = k;
                }
            }
            return best;
        }

        void copyFrom(Sacks other) {
            size = other.size;
            System.arraycopy(other.person, 0, person, 0, MOST_SACKS);
            System.arraycopy(other.sin, 0, sin, 0, MOST_SACKS);
            System.arraycopy(other.fine, 0, fine, 0, MOST_SACKS);
            System.arraycopy(other.ground, 0, ground, 0, MOST_SACKS);
            System.arraycopy(other.held, 0, held, 0, MOST_SACKS);
            System.arraycopy(other.times, 0, times, 0, MOST_SACKS);
            System.arraycopy(other.worn, 0, worn, 0, MOST_SACKS);
            System.arraycopy(other.pride, 0, pride, 0, MOST_SACKS);
            System.arraycopy(other.day, 0, day, 0, MOST_SACKS);
            System.arraycopy(other.leftBits, 0, leftBits, 0, MOST_SACKS);
        }
    }

    /** All that changes from call to call under one text. */
    private static final class Works {
        private static final int MOST_WORN = 99999;
        private static final int MOST_WEAR = 99;
        private static final long FACTOR = 1103515245L;
        private static final long ADDED = 12345L;
        private static final long LOW_BITS = 0x7fffffffL;
        private static final int CUT = 65536;

        private Telling told;
        private final Sacks sacks = new Sacks();
        private final int[] done = new int[SLOTS];
        private final int[] left = new int[SLOTS];
        private final int[] times = new int[MOST_PEOPLE];
        private final int[] invented = new int[MOST_PEOPLE];
        private final int[] falls = new int[MOST_PEOPLE];
        private final int[] bakedOn = new int[MOST_CAKES];
        private final int[] taken = new int[MOST_CAKES * MOST_SACKS];
        private int day;
        private int grain;
        private int worn;
        private int drawn;
        private int known;

        Works(Telling told) {
            this.told = told;
            begin(told);
        }

        void begin(Telling text) {
            told = text;
            sacks.size = 0;
            System.arraycopy(text.deeds, 0, done, 0, SLOTS);
            System.arraycopy(text.deeds, 0, left, 0, SLOTS);
            Arrays.fill(times, 0);
            Arrays.fill(invented, 0);
            Arrays.fill(falls, 0);
            Arrays.fill(bakedOn, NONE);
            day = 0;
            grain = text.grain;
            worn = text.stone;
            drawn = text.seed;
            known = NONE;
        }

        // What cakes took is only for undo, and nothing can be undone behind a copy.
        void copyFrom(Works other) {
            told = other.told;
            sacks.copyFrom(other.sacks);
            System.arraycopy(other.done, 0, done, 0, SLOTS);
            System.arraycopy(other.left, 0, left, 0, SLOTS);
            System.arraycopy(other.times, 0, times, 0, MOST_PEOPLE);
            System.arraycopy(other.invented, 0, invented, 0, MOST_PEOPLE);
            System.arraycopy(other.falls, 0, falls, 0, MOST_PEOPLE);
            System.arraycopy(other.bakedOn, 0, bakedOn, 0, MOST_CAKES);
            day = other.day;
            grain = other.grain;
            worn = other.worn;
            drawn = other.drawn;
            known = other.known;
        }

        // ---- what laws say of people and sins ----

        int leftOf(int person, int sin) {
            return left[person * MOST_SINS + sin];
        }

        int prideOf(int person) {
            int pride = 0;
            for (int sin = 0; sin < MOST_SINS; sin++) {
                pride += left[person * MOST_SINS + sin];
            }
            return pride;
        }

        private int worthLeft(int person) {
            int sum = 0;
            for (int sin = 0; sin < told.sizes[SIN]; sin++) {
                sum += left[person * MOST_SINS + sin] * told.worth[sin];
            }
            return sum;
        }

        private int leftBitsOf(int person) {
            int bits = 0;
            for (int sin = 0; sin < MOST_SINS; sin++) {
                bits |= left[person * MOST_SINS + sin] > 0 ? 1 << sin : 0;
            }
            return bits;
        }

        private void setNames(int person, int sin) {
            int lie = leftOf(person, sin) > 0 ? 0 : 1;
            told.laws.setNames(told.worth[sin], times[person], worn, prideOf(person), lie, told.honest[person], day);
        }

        long valueOf(int law, int person, int sin) {
            setNames(person, sin);
            return told.laws.value(law);
        }

        long pairValue(int first, int other) {
            told.laws.setNames(worthLeft(first), worthLeft(other), worn, prideOf(first), 0, told.honest[other], day);
            return told.laws.value(PAIR);
        }

        int fineOf(int person, int sin) {
            setNames(person, sin);
            return told.fineness(GRIND, sin);
        }

        /** FINE by a law and a sin as all was when a sack was filled. */
        int fineThen(int sack, int law, int sin) {
            told.laws.setNames(told.worth[sin], sacks.times[sack], sacks.worn[sack], sacks.pride[sack],
                sacks.lieBy(sack, sin), told.honest[sacks.person[sack]], sacks.day[sack]);
            return told.fineness(law, sin);
        }

        boolean isFitting(int law) {
            int size = known == NONE ? sacks.size : Math.min(known, sacks.size);
            for (int k = 0; k < size; k++) {
                if (fineThen(k, law, sacks.sin[k]) != sacks.fine[k]) {
                    return false;
                }
            }
            return true;
        }

        // ---- confessions ----

        boolean canGrind() {
            return grain > 0 && !sacks.isFull();
        }

        int portion() {
            return Math.min(told.grist, grain);
        }

        /** CONFESSED, if it can be ground. */
        void grindOne(int person, int sin, boolean wearing) {
            if (!canGrind()) {
                return;
            }
            int sack = sacks.size;
            setNames(person, sin);
            sacks.person[sack] = person;
            sacks.sin[sack] = sin;
            sacks.fine[sack] = told.fineness(GRIND, sin);
            sacks.ground[sack] = portion();
            sacks.held[sack] = portion();
            sacks.times[sack] = times[person];
            sacks.worn[sack] = worn;
            sacks.pride[sack] = prideOf(person);
            sacks.day[sack] = day;
            sacks.leftBits[sack] = leftBitsOf(person);
            sacks.size++;
            grain -= portion();
            worn = wearing ? Math.min(MOST_WORN, worn + wearHere()) : worn;
            times[person]++;
            if (sacks.lieBy(sack, sin) == 0) {
                left[person * MOST_SINS + sin]--;
            } else {
                invented[person]++;
            }
        }

        private int wearHere() {
            long value = told.laws.value(WEAR);
            return value == ERROR ? 1 : (int) Math.max(0, Math.min(MOST_WEAR, value));
        }

        /** Takes the latest confession back; none of its flour may be baked any more. */
        void ungrind() {
            if (sacks.size <= 0) {
                return;
            }
            sacks.size--;
            int sack = sacks.size;
            int person = sacks.person[sack];
            int sin = sacks.sin[sack];
            grain += sacks.ground[sack];
            worn = sacks.worn[sack];
            times[person] = sacks.times[sack];
            if (sacks.lieBy(sack, sin) == 0) {
                left[person * MOST_SINS + sin]++;
            } else {
                invented[person]--;
            }
        }

        private int draw() {
            drawn = (int) (drawn * FACTOR + ADDED & LOW_BITS);
            return drawn / CUT;
        }

        /** The sin of one who is asked; NONE: nothing is confessed. */
        int sinByChance(int person) {
            boolean honestly = draw() % 100 < told.honest[person];
            int worst = worstLeft(person);
            if (honestly && worst != NONE) {
                return worst;
            }
            int free = told.sizes[SIN] - Integer.bitCount(leftBitsOf(person));
            return free > 0 ? freeSin(person, draw() % free) : NONE;
        }

        private int worstLeft(int person) {
            int worst = NONE;
            for (int sin = 0; sin < told.sizes[SIN]; sin++) {
                if (leftOf(person, sin) > 0 && (worst == NONE || told.worth[sin] > told.worth[worst])) {
                    worst = sin;
                }
            }
            return worst;
        }

        private int freeSin(int person, int ahead) {
            int passed = 0;
            for (int sin = 0; sin < told.sizes[SIN]; sin++) {
                if (leftOf(person, sin) > 0) {
                    continue;
                }
                if (passed == ahead) {
                    return sin;
                }
                passed++;
            }
            return NONE;
        }

        // ---- falls ----

        boolean canFall(int person, int sin) {
            return done[person * MOST_SINS + sin] < MOST_DONE;
        }

        void fallOnce(int person, int sin) {
            done[person * MOST_SINS + sin]++;
            left[person * MOST_SINS + sin]++;
            falls[person]++;
        }

        void unfall(int person, int sin) {
            done[person * MOST_SINS + sin]--;
            left[person * MOST_SINS + sin]--;
            falls[person]--;
        }

        // ---- cakes ----

        boolean isBaked(int cake) {
            return bakedOn[cake] != NONE;
        }

        /** BAKED, whatever its day: false, and nothing is taken, if it is already or there isn't so much. */
        boolean bakeOne(int cake) {
            int least = told.cakeFine[cake];
            int wanted = told.cakeFlour[cake];
            if (isBaked(cake) || sacks.flourFrom(least) < wanted) {
                return false;
            }
            for (int k = 0; k < MOST_SACKS; k++) {
                taken[cake * MOST_SACKS + k] = 0;
            }
            for (int k = 0; k < MOST_SACKS && wanted > 0; k++) {
                int sack = sacks.coarsestFrom(least);
                if (sack == NONE) {
                    break;
                }
                int part = Math.min(wanted, sacks.held[sack]);
                sacks.held[sack] -= part;
                taken[cake * MOST_SACKS + sack] = part;
                wanted -= part;
            }
            bakedOn[cake] = day;
            return true;
        }

        void unbake(int cake) {
            for (int k = 0; k < sacks.size; k++) {
                sacks.held[k] += taken[cake * MOST_SACKS + k];
            }
            bakedOn[cake] = NONE;
        }

        void bakeOfDay() {
            for (int cake = 0; cake < told.sizes[CAKE]; cake++) {
                if (told.cakeDay[cake] == day) {
                    bakeOne(cake);
                }
            }
        }

        // ---- a day by itself ----

        void confessOfDay(int trial, int i) {
            int best = NONE;
            long most = 0;
            for (int slot = 0; slot < told.sizes[PERSON] * MOST_SINS && canGrind(); slot++) {
                long urge = left[slot] > 0 ? urgeOf(slot / MOST_SINS, slot % MOST_SINS, trial, i) : 0;
                if (urge > most) {
                    most = urge;
                    best = slot;
                }
            }
            if (best != NONE) {
                grindOne(best / MOST_SINS, best % MOST_SINS, trial != UNWORN);
            }
        }

        /** How much it wants to be confessed: not at all, if that isn't above 0. */
        private long urgeOf(int person, int sin, int trial, int i) {
            if (trial == SILENT && person == i || trial == SPARED && sin == i) {
                return 0;
            }
            if (trial == LEAST) {
                return 100 - told.worth[sin];
            }
            if (trial == GREATEST || !told.laws.isTold(WANT)) {
                return told.worth[sin];
            }
            long value = valueOf(WANT, person, sin);
            return value == ERROR ? 0 : value;
        }
    }

    /** The plan of each cake, kept until something changes. */
    private static final class Planner {
        private static final int BEYOND = MOST_PLANNED + 1;

        private final Works trial;
        private final int[] sought = new int[MOST_CAKES];
        private final int[] falls = new int[MOST_CAKES];
        private final int[] steps = new int[MOST_CAKES];
        private final int[] slots = new int[MOST_CAKES * MOST_PLANNED];
        private final int[] path = new int[MOST_PLANNED];
        private int cake;
        private int least;

        Planner(Works trial) {
            this.trial = trial;
        }

        void forget() {
            Arrays.fill(sought, 0);
        }

        boolean isThere(int ofCake) {
            return falls[ofCake] < BEYOND;
        }

        int stepOf(int ofCake, int k) {
            return k >= 0 && k < MOST_PLANNED ? slots[ofCake * MOST_PLANNED + k] : 0;
        }

        void planFor(Works now, int ofCake) {
            if (sought[ofCake] != 0) {
                return;
            }
            sought[ofCake] = 1;
            cake = ofCake;
            falls[cake] = BEYOND;
            steps[cake] = BEYOND;
            trial.copyFrom(now);
            least = now.told.cakeFine[cake];
            int missing = now.told.cakeFlour[cake] - now.sacks.flourFrom(least);
            if (missing <= 0) {
                take(0, 0);
            } else if (isHopeful(0, 0, missing)) {
                seek(0, 0, missing);
            }
        }

        // The paths come in the order of the document, so of equal ones the first taken stays.
        private void seek(int length, int fallen, int missing) {
            if (length >= MOST_PLANNED) {
                return;
            }
            for (int person = 0; person < trial.told.sizes[PERSON]; person++) {
                for (int sin = 0; sin < trial.told.sizes[SIN]; sin++) {
                    path[length] = person * MOST_SINS + sin;
                    if (trial.leftOf(person, sin) > 0) {
                        step(length, fallen, missing);
                    } else if (trial.canFall(person, sin) && isBetter(fallen + 1, length + 1)) {
                        trial.fallOnce(person, sin);
                        step(length, fallen + 1, missing);
                        trial.unfall(person, sin);
                    }
                }
            }
        }

        private void step(int length, int fallen, int missing) {
            int person = path[length] / MOST_SINS;
            int sin = path[length] % MOST_SINS;
            int portion = trial.portion();
            if (!trial.canGrind() || !isBetter(fallen, length + 1)) {
                return;
            }
            int missingThen = trial.fineOf(person, sin) >= least ? missing - portion : missing;
            if (missingThen <= 0) {
                take(length + 1, fallen);
            } else if (trial.grain - portion >= missingThen && isHopeful(length + 1, fallen, missingThen)) {
                trial.grindOne(person, sin, true);
                seek(length + 1, fallen, missingThen);
                trial.ungrind();
            }
        }

        private boolean isBetter(int fallen, int length) {
            return fallen < falls[cake] || fallen == falls[cake] && length < steps[cake];
        }

        // No confession brings more than the grist, so this many more must come at least.
        private boolean isHopeful(int length, int fallen, int missing) {
            int grist = Math.max(1, trial.told.grist);
            int needed = length + (missing + grist - 1) / grist;
            return needed <= MOST_PLANNED && isBetter(fallen, needed);
        }

        private void take(int length, int fallen) {
            falls[cake] = fallen;
            steps[cake] = length;
            System.arraycopy(path, 0, slots, cake * MOST_PLANNED, MOST_PLANNED);
        }
    }

    /** People in twos by the law of pair. */
    private static final class Couples {
        private final int[] partner = new int[MOST_PEOPLE];
        private final int[] best = new int[MOST_PEOPLE];
        private final long[] values = new long[MOST_PEOPLE * MOST_PEOPLE];
        private int people;
        private long most;
        private boolean found;

        void bringTogether(Works now) {
            people = now.told.sizes[PERSON];
            for (int first = 0; first < people; first++) {
                for (int other = first + 1; other < people; other++) {
                    long value = now.pairValue(first, other);
                    values[first * MOST_PEOPLE + other] = value == ERROR ? 0 : value;
                }
            }
            found = false;
            most = 0;
            pairFrom(0, 0, people % 2 != 0, 0);
        }

        // The least partner is tried first and being left last, so of equal sums the first stays.
        private void pairFrom(int person, int settled, boolean oneMayBeLeft, long sum) {
            if (person >= people) {
                takeIfMore(sum);
                return;
            }
            if ((settled >> person & 1) != 0) {
                pairFrom(person + 1, settled, oneMayBeLeft, sum);
                return;
            }
            for (int other = person + 1; other < people; other++) {
                if ((settled >> other & 1) == 0) {
                    partner[person] = other;
                    partner[other] = person;
                    pairFrom(person + 1, settled | 1 << other, oneMayBeLeft,
                        sum + values[person * MOST_PEOPLE + other]);
                }
            }
            if (oneMayBeLeft) {
                partner[person] = NONE;
                pairFrom(person + 1, settled, false, sum);
            }
        }

        private void takeIfMore(long sum) {
            if (!found || sum > most) {
                found = true;
                most = sum;
                System.arraycopy(partner, 0, best, 0, MOST_PEOPLE);
            }
        }
    }
}
