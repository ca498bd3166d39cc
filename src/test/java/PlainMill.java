import java.math.BigInteger;
import java.util.ArrayList;
import java.util.Arrays;
import java.util.List;

/** The document once more, as plainly as can be: trees, whole copies, all ways tried. Tests compare with it. */
final class PlainMill {
    // ---- the text ----

    static final class Fault extends Exception {
        final int what;
        final int place;

        Fault(int what, int place) {
            this.what = what;
            this.place = place;
        }
    }

    static final class Node {
        final String sign;
        final Node a;
        final Node b;

        Node(String sign, Node a, Node b) {
            this.sign = sign;
            this.a = a;
            this.b = b;
        }
    }

    static final class Text {
        final List<List<String>> names = new ArrayList<>();
        final List<Integer> worth = new ArrayList<>();
        final List<Integer> honest = new ArrayList<>();
        final List<int[]> deeds = new ArrayList<>();
        final List<int[]> cakes = new ArrayList<>();
        final List<Node> mays = new ArrayList<>();
        final Node[] laws = new Node[4];
        Integer grain, grist, stone, seed;
        int knots;
        int lines;

        Text() {
            for (int k = 0; k < 4; k++) {
                names.add(new ArrayList<>());
            }
        }

        int size(int kind) {
            return names.get(kind).size();
        }
    }

    private static final List<String> LANGUAGE = Arrays.asList(("sin person did cake grain grist stone seed law may grind "
        + "wear want pair or and not worth times worn pride lie honest day").split(" "));
    private static final List<String> NAMES = Arrays.asList("worth times worn pride lie honest day".split(" "));
    private static final List<String> LAW_KINDS = Arrays.asList("grind wear want pair".split(" "));

    static final class Parser {
        final String text;
        int at;
        int depth;
        Text out = new Text();

        Parser(String text) {
            this.text = text;
        }

        void blanks() {
            while (at < text.length() && (text.charAt(at) == 32 || text.charAt(at) == 10)) {
                at++;
            }
        }

        /** The token at the place where one is, "" at the end; it is not passed. */
        String peek() {
            blanks();
            if (at >= text.length()) {
                return "";
            }
            int end = at;
            String rest = text.substring(at);
            char first = rest.charAt(0);
            if (first >= 'a' && first <= 'z') {
                while (end < text.length() && text.charAt(end) >= 'a' && text.charAt(end) <= 'z') {
                    end++;
                }
                return text.substring(at, end);
            }
            if (first >= '0' && first <= '9') {
                while (end < text.length() && text.charAt(end) >= '0' && text.charAt(end) <= '9') {
                    end++;
                }
                return text.substring(at, end);
            }
            for (String two : new String[] {"<=", "<>", ">="}) {
                if (rest.startsWith(two)) {
                    return two;
                }
            }
            return rest.substring(0, 1);
        }

        String pass() {
            String token = peek();
            at += token.length();
            return token;
        }

        Fault fault(int what) {
            blanks();
            return new Fault(what, at);
        }

        void expect(String token) throws Fault {
            if (!peek().equals(token)) {
                throw fault(1);
            }
            pass();
        }

        String freeWord() throws Fault {
            String token = peek();
            if (!token.matches("[a-z]{1,6}") || LANGUAGE.contains(token)) {
                throw fault(1);
            }
            return token;
        }

        int number(int least, int most) throws Fault {
            String token = peek();
            if (!token.matches("[0-9]+")) {
                throw fault(1);
            }
            BigInteger value = new BigInteger(token);
            if (value.compareTo(BigInteger.valueOf(least)) < 0 || value.compareTo(BigInteger.valueOf(most)) > 0) {
                throw fault(2);
            }
            pass();
            return value.intValue();
        }

        void knot() throws Fault {
            if (out.knots == 64) {
                throw fault(2);
            }
            out.knots++;
        }

        void newName(int kind, int most) throws Fault {
            if (out.size(kind) == most) {
                throw fault(2);
            }
            pass();
            String name = freeWord();
            if (out.names.get(kind).contains(name)) {
                throw fault(3);
            }
            pass();
            out.names.get(kind).add(name);
        }

        int once(Integer told, int least, int most) throws Fault {
            if (told != null) {
                throw fault(3);
            }
            pass();
            return number(least, most);
        }

        void line() throws Fault {
            switch (peek()) {
                case "sin":
                    newName(0, 4);
                    out.worth.add(number(0, 99));
                    break;
                case "person":
                    newName(1, 5);
                    out.honest.add(number(0, 100));
                    int[] deeds = new int[4];
                    out.deeds.add(deeds);
                    while (peek().equals("did")) {
                        pass();
                        int sin = out.names.get(0).indexOf(freeWord());
                        if (sin < 0) {
                            throw fault(4);
                        }
                        if (deeds[sin] > 0) {
                            throw fault(3);
                        }
                        pass();
                        deeds[sin] = number(1, 9);
                    }
                    break;
                case "cake":
                    newName(2, 5);
                    out.cakes.add(new int[] {number(0, 999), number(1, 99), number(0, 99)});
                    break;
                case "grain": out.grain = once(out.grain, 0, 9999); break;
                case "grist": out.grist = once(out.grist, 1, 99); break;
                case "stone": out.stone = once(out.stone, 0, 999); break;
                case "seed": out.seed = once(out.seed, 0, 99999); break;
                case "law":
                    pass();
                    int law = LAW_KINDS.indexOf(peek());
                    if (law < 0) {
                        throw fault(1);
                    }
                    if (out.laws[law] != null) {
                        throw fault(3);
                    }
                    pass();
                    out.laws[law] = either();
                    break;
                case "may":
                    newName(3, 3);
                    out.mays.add(either());
                    break;
                default: throw fault(1);
            }
            expect(";");
            out.lines++;
        }

        Node joint(Node a) throws Fault {
            knot();
            return new Node(pass(), a, null);
        }

        Node either() throws Fault {
            Node a = both();
            while (peek().equals("or")) {
                Node joint = joint(a);
                a = new Node(joint.sign, a, both());
            }
            return a;
        }

        Node both() throws Fault {
            Node a = inverse();
            while (peek().equals("and")) {
                Node joint = joint(a);
                a = new Node(joint.sign, a, inverse());
            }
            return a;
        }

        Node inverse() throws Fault {
            if (peek().equals("not")) {
                knot();
                pass();
                return new Node("not", inverse(), null);
            }
            Node a = sum();
            if (Arrays.asList("<", "<=", "=", "<>", ">=", ">").contains(peek())) {
                Node joint = joint(a);
                return new Node(joint.sign, a, sum());
            }
            return a;
        }

        Node sum() throws Fault {
            Node a = product();
            while (peek().equals("+") || peek().equals("-")) {
                Node joint = joint(a);
                a = new Node(joint.sign, a, product());
            }
            return a;
        }

        Node product() throws Fault {
            Node a = side();
            while (peek().equals("*") || peek().equals("/")) {
                Node joint = joint(a);
                a = new Node(joint.sign, a, side());
            }
            return a;
        }

        Node side() throws Fault {
            String token = peek();
            if (token.equals("(")) {
                if (depth == 8) {
                    throw fault(2);
                }
                pass();
                depth++;
                Node inside = either();
                expect(")");
                depth--;
                return inside;
            }
            if (NAMES.contains(token)) {
                knot();
                return new Node(pass(), null, null);
            }
            if (!token.matches("[0-9]+")) {
                throw fault(1);
            }
            if (out.knots == 64) {
                throw fault(2);
            }
            int value = number(0, 9999);
            out.knots++;
            return new Node(Integer.toString(value), null, null);
        }
    }

    private static final BigInteger FAR = BigInteger.TEN.pow(12);

    /** null: an ERROR. */
    static BigInteger work(Node node, long[] names) {
        if (NAMES.contains(node.sign)) {
            return BigInteger.valueOf(names[NAMES.indexOf(node.sign)]);
        }
        if (node.a == null) {
            return new BigInteger(node.sign);
        }
        BigInteger a = work(node.a, names);
        BigInteger b = node.b == null ? BigInteger.ZERO : work(node.b, names);
        if (a == null || b == null) {
            return null;
        }
        BigInteger value;
        int order = a.compareTo(b);
        switch (node.sign) {
            case "not": value = truth(a.signum() == 0); break;
            case "and": value = truth(a.signum() != 0 && b.signum() != 0); break;
            case "or": value = truth(a.signum() != 0 || b.signum() != 0); break;
            case "<": value = truth(order < 0); break;
            case "<=": value = truth(order <= 0); break;
            case "=": value = truth(order == 0); break;
            case "<>": value = truth(order != 0); break;
            case ">=": value = truth(order >= 0); break;
            case ">": value = truth(order > 0); break;
            case "+": value = a.add(b); break;
            case "-": value = a.subtract(b); break;
            case "*": value = a.multiply(b); break;
            default:
                if (b.signum() == 0) {
                    return null;
                }
                value = a.divide(b);
        }
        return value.abs().compareTo(FAR) > 0 ? null : value;
    }

    private static BigInteger truth(boolean holds) {
        return holds ? BigInteger.ONE : BigInteger.ZERO;
    }

    // ---- the state ----

    static final class Sack {
        int person, sin, fine, held;
        boolean lie;
        State then;

        Sack copy() {
            Sack other = new Sack();
            other.person = person;
            other.sin = sin;
            other.fine = fine;
            other.held = held;
            other.lie = lie;
            other.then = then;
            return other;
        }
    }

    static final class State {
        int day, grain, worn, known = -1;
        long drawn;
        int[][] done, truly;
        int[] times, lies, falls, baked;
        List<Sack> sacks = new ArrayList<>();

        State copy() {
            State other = new State();
            other.day = day;
            other.grain = grain;
            other.worn = worn;
            other.known = known;
            other.drawn = drawn;
            other.done = copy(done);
            other.truly = copy(truly);
            other.times = times.clone();
            other.lies = lies.clone();
            other.falls = falls.clone();
            other.baked = baked.clone();
            for (Sack sack : sacks) {
                other.sacks.add(sack.copy());
            }
            return other;
        }

        private static int[][] copy(int[][] rows) {
            int[][] other = rows.clone();
            for (int k = 0; k < rows.length; k++) {
                other[k] = rows[k].clone();
            }
            return other;
        }

        int left(int person, int sin) {
            return done[person][sin] - truly[person][sin];
        }

        int pride(int person) {
            return left(person, 0) + left(person, 1) + left(person, 2) + left(person, 3);
        }

        int flour(int fine) {
            return sacks.stream().filter(s -> s.fine >= fine).mapToInt(s -> s.held).sum();
        }
    }

    private String tape = "";
    private Text text = new Text();
    private State now;
    private State image;
    private List<State> undos = new ArrayList<>();
    private int fault;
    private int faultPlace = -1;

    PlainMill() {
        begin(new Text());
    }

    private void begin(Text told) {
        text = told;
        now = new State();
        now.grain = told.grain == null ? 100 : told.grain;
        now.worn = told.stone == null ? 0 : told.stone;
        now.drawn = told.seed == null ? 0 : told.seed;
        int people = told.size(1);
        now.done = new int[people][4];
        now.truly = new int[people][4];
        for (int k = 0; k < people; k++) {
            now.done[k] = told.deeds.get(k).clone();
        }
        now.times = new int[people];
        now.lies = new int[people];
        now.falls = new int[people];
        now.baked = new int[told.size(2)];
        Arrays.fill(now.baked, -2);
        image = null;
        undos.clear();
    }

    private boolean person(int k) {
        return k >= 0 && k < text.size(1);
    }

    private boolean sin(int k) {
        return k >= 0 && k < text.size(0);
    }

    private boolean cake(int k) {
        return k >= 0 && k < text.size(2);
    }

    private int grist() {
        return text.grist == null ? 5 : text.grist;
    }

    private long[] names(State s, int person, int sin) {
        return new long[] {text.worth.get(sin), s.times[person], s.worn, s.pride(person),
            s.left(person, sin) > 0 ? 0 : 1, text.honest.get(person), s.day};
    }

    private int fineBy(Node law, State s, int person, int sin) {
        BigInteger value = law == null ? null : work(law, names(s, person, sin));
        return value == null ? text.worth.get(sin)
            : value.max(BigInteger.ZERO).min(BigInteger.valueOf(999)).intValue();
    }

    private boolean confessed(State s, int person, int sin, boolean wears) {
        if (s.grain == 0 || s.sacks.size() == 60) {
            return false;
        }
        Sack sack = new Sack();
        sack.then = s.copy();
        sack.person = person;
        sack.sin = sin;
        sack.lie = s.left(person, sin) == 0;
        sack.fine = fineBy(text.laws[0], s, person, sin);
        sack.held = Math.min(s.grain, grist());
        BigInteger wear = text.laws[1] == null ? null : work(text.laws[1], names(s, person, sin));
        int more = wear == null ? 1 : wear.max(BigInteger.ZERO).min(BigInteger.valueOf(99)).intValue();
        s.grain -= sack.held;
        s.sacks.add(sack);
        s.times[person]++;
        if (sack.lie) {
            s.lies[person]++;
        } else {
            s.truly[person][sin]++;
        }
        if (wears) {
            s.worn = Math.min(99999, s.worn + more);
        }
        return true;
    }

    private boolean bakes(State s, int cake, int[] counted) {
        int[] wants = text.cakes.get(cake);
        if (s.baked[cake] != -2 || s.flour(wants[0]) < wants[1]) {
            return false;
        }
        List<Sack> row = new ArrayList<>(s.sacks);
        row.sort((a, b) -> Integer.compare(a.fine, b.fine));
        int missing = wants[1];
        for (Sack sack : row) {
            if (sack.fine >= wants[0]) {
                int part = Math.min(missing, sack.held);
                sack.held -= part;
                missing -= part;
                if (counted != null && sack.fine >= counted[0]) {
                    counted[1] += part;
                }
            }
        }
        s.baked[cake] = s.day;
        return true;
    }

    private void day(State s, int trial, int i, int[] counted) {
        int[] best = null;
        long most = 0;
        for (int p = 0; p < text.size(1); p++) {
            for (int q = 0; q < text.size(0); q++) {
                if (s.left(p, q) == 0 || trial == 1 && p == i || trial == 2 && q == i) {
                    continue;
                }
                long worth = text.worth.get(q);
                BigInteger want = text.laws[2] == null ? BigInteger.valueOf(worth)
                    : work(text.laws[2], names(s, p, q));
                long urge = want == null ? 0 : want.longValue();
                boolean better = trial == 3 ? best == null || worth < most
                    : trial == 4 ? worth > most : urge > most;
                if (better) {
                    best = new int[] {p, q};
                    most = trial == 3 || trial == 4 ? worth : urge;
                }
            }
        }
        if (best != null) {
            confessed(s, best[0], best[1], trial != 0);
        }
        for (int k = 0; k < text.size(2); k++) {
            if (text.cakes.get(k)[2] == s.day) {
                bakes(s, k, counted);
            }
        }
        s.day++;
    }

    private int draw(State s) {
        s.drawn = (s.drawn * 1103515245L + 12345L) % (1L << 31);
        return (int) (s.drawn / 65536);
    }

    private int chance(State s, int person) {
        int first = draw(s) % 100;
        int worst = -1;
        List<Integer> free = new ArrayList<>();
        for (int q = 0; q < text.size(0); q++) {
            if (s.left(person, q) == 0) {
                free.add(q);
            } else if (worst < 0 || text.worth.get(q) > text.worth.get(worst)) {
                worst = q;
            }
        }
        if (first < text.honest.get(person) && worst >= 0) {
            return worst;
        }
        return free.isEmpty() ? -1 : free.get(draw(s) % free.size());
    }

    // ---- the calls ----

    private void remember() {
        undos.add(now.copy());
        if (undos.size() > 20) {
            undos.remove(0);
        }
    }

    long feed(int[] a) {
        if (tape.length() + 20 > 700) {
            return -1;
        }
        StringBuilder more = new StringBuilder(tape);
        for (int number : a) {
            for (int shift = 24; shift >= 0; shift -= 8) {
                more.append((char) (number >>> shift & 255));
            }
        }
        tape = more.toString();
        return tape.length();
    }

    long text(int n) {
        if (n < 0 || n > tape.length()) {
            return -2;
        }
        Parser parser = new Parser(tape.substring(0, n));
        tape = "";
        try {
            while (!parser.peek().isEmpty()) {
                parser.line();
            }
        } catch (Fault f) {
            fault = f.what;
            faultPlace = f.place;
            return -1;
        }
        fault = 0;
        faultPlace = -1;
        begin(parser.out);
        return parser.out.lines;
    }

    long fault(int what) {
        return what == 0 ? fault : what == 1 ? faultPlace : -1;
    }

    long named(int what, int letters) {
        if (what < 0 || what > 3) {
            return -1;
        }
        for (int k = 0; k < text.size(what); k++) {
            if (Due.letters(text.names.get(what).get(k)) == letters) {
                return k;
            }
        }
        return -1;
    }

    long look(int person, int what) {
        if (!person(person)) {
            return Due.OUTSIDE;
        }
        switch (what) {
            case 0: return text.honest.get(person);
            case 1: return now.times[person];
            case 2: return now.lies[person];
            case 3: return now.pride(person);
            case 4: return now.falls[person];
            default: return Due.NO_SUCH;
        }
    }

    long did(int person, int sin, int what) {
        if (!person(person) || !sin(sin) || what < 0 || what > 1) {
            return -1;
        }
        return what == 0 ? now.done[person][sin] : now.left(person, sin);
    }

    long fine(int person, int sin) {
        return person(person) && sin(sin) ? fineBy(text.laws[0], now, person, sin) : -1;
    }

    private long worthLeft(int person) {
        long sum = 0;
        for (int q = 0; q < text.size(0); q++) {
            sum += (long) text.worth.get(q) * now.left(person, q);
        }
        return sum;
    }

    long law(int what, int person, int sin) {
        if (what < 0 || what > 3 || text.laws[what] == null || !person(person)) {
            return Long.MIN_VALUE;
        }
        long[] names;
        if (what == 3) {
            if (!person(sin) || sin <= person) {
                return Long.MIN_VALUE;
            }
            names = new long[] {worthLeft(person), worthLeft(sin), now.worn, now.pride(person), 0,
                text.honest.get(sin), now.day};
        } else {
            if (!sin(sin) || what == 2 && now.left(person, sin) == 0) {
                return Long.MIN_VALUE;
            }
            names = names(now, person, sin);
        }
        BigInteger value = work(text.laws[what], names);
        return value == null ? Long.MIN_VALUE : value.longValue();
    }

    long confess(int person, int sin) {
        if (!person(person) || !sin(sin)) {
            return -1;
        }
        if (now.grain == 0 || now.sacks.size() == 60) {
            return -2;
        }
        remember();
        confessed(now, person, sin, true);
        return now.sacks.size() - 1;
    }

    long ask(int person) {
        if (!person(person)) {
            return -1;
        }
        if (now.grain == 0 || now.sacks.size() == 60) {
            return -2;
        }
        int sin = chance(now, person);
        return sin < 0 ? -3 : confess(person, sin);
    }

    long fall(int person, int sin) {
        if (!person(person) || !sin(sin)) {
            return -1;
        }
        if (now.done[person][sin] == 99) {
            return -2;
        }
        remember();
        now.done[person][sin]++;
        return ++now.falls[person];
    }

    long sack(int sack, int what) {
        if (sack < 0 || sack >= now.sacks.size()) {
            return -1;
        }
        Sack s = now.sacks.get(sack);
        switch (what) {
            case 0: return s.person;
            case 1: return s.sin;
            case 2: return s.fine;
            case 3: return s.held;
            case 4: return s.lie ? 1 : 0;
            default: return -1;
        }
    }

    long flour(int fine) {
        return fine < 0 || fine > 999 ? -1 : now.flour(fine);
    }

    long bake(int cake) {
        if (!cake(cake) || now.day > text.cakes.get(cake)[2]) {
            return 0;
        }
        State ahead = now.copy();
        if (!bakes(now, cake, null)) {
            return 0;
        }
        State behind = now;
        now = ahead;
        remember();
        now = behind;
        return 1;
    }

    long baked(int cake) {
        return cake(cake) ? now.baked[cake] : -1;
    }

    long days(int n) {
        if (n < 0 || now.day + (long) n > 100) {
            return -1;
        }
        for (int k = 0; k < n; k++) {
            day(now, -1, 0, null);
            undos.clear();
        }
        return now.day;
    }

    /** FALLS, then PERSON and SIN of each confession; null: there is none. */
    private int[] bestPlan(int cake) {
        int[] best = null;
        int slots = text.size(1) * text.size(0);
        for (int length = 0; length <= 4; length++) {
            int ways = 1;
            for (int k = 0; k < length; k++) {
                ways *= slots;
            }
            for (int way = 0; way < ways; way++) {
                int[] found = followed(cake, length, way, ways, slots);
                if (found != null && (best == null || found[0] < best[0])) {
                    best = found;
                }
            }
        }
        return best;
    }

    private int[] followed(int cake, int length, int way, int ways, int slots) {
        State s = now.copy();
        int[] found = new int[1 + 2 * length];
        int rest = ways;
        for (int k = 0; k < length; k++) {
            rest /= slots;
            int slot = way / rest % slots;
            int p = slot / text.size(0);
            int q = slot % text.size(0);
            if (s.left(p, q) == 0) {
                s.done[p][q]++;
                found[0]++;
            }
            found[1 + 2 * k] = p;
            found[2 + 2 * k] = q;
            if (!confessed(s, p, q, true)) {
                return null;
            }
        }
        int[] wants = text.cakes.get(cake);
        return s.flour(wants[0]) >= wants[1] ? found : null;
    }

    long plan(int cake, int what) {
        if (!cake(cake) || now.baked[cake] != -2 || what < 0 || what > 1) {
            return -1;
        }
        int[] best = bestPlan(cake);
        return best == null ? -2 : what == 0 ? best[0] : best.length / 2;
    }

    long planned(int cake, int k, int what) {
        if (!cake(cake) || now.baked[cake] != -2 || k < 0 || what < 0 || what > 1) {
            return -1;
        }
        int[] best = bestPlan(cake);
        return best == null || k >= best.length / 2 ? -2 : best[1 + 2 * k + what];
    }

    long crumb(int sack, int what) {
        if (sack < 0 || sack >= now.sacks.size() || what < 0 || what > 3) {
            return -1;
        }
        Sack s = now.sacks.get(sack);
        int truly = 0;
        int invented = 0;
        int honest = text.honest.get(s.person);
        int lies = 0;
        int all = 0;
        for (int q = 0; q < text.size(0); q++) {
            if (fineBy(text.laws[0], s.then, s.person, q) != s.fine) {
                continue;
            }
            if (s.then.left(s.person, q) > 0) {
                truly += 1 << q;
                all += honest;
            } else {
                invented += 1 << q;
                lies += 100 - honest;
                all += 100 - honest;
            }
        }
        if (what < 2) {
            return what == 0 ? truly : invented;
        }
        if (all == 0) {
            return what == 2 ? 0 : 1;
        }
        int common = BigInteger.valueOf(lies).gcd(BigInteger.valueOf(all)).intValue();
        return (what == 2 ? lies : all) / common;
    }

    long run(int n, int fine) {
        return going(-1, 0, n, fine);
    }

    private long going(int trial, int i, int n, int fine) {
        if (n < 0 || n > 100 - now.day || fine < 0 || fine > 999) {
            return -1;
        }
        State s = now.copy();
        int[] counted = {fine, 0};
        for (int k = 0; k < n; k++) {
            day(s, trial, i, counted);
        }
        return s.flour(fine) + counted[1];
    }

    long tried(int what, int i, int n, int fine) {
        boolean such = what == 1 ? person(i) : what == 2 ? sin(i) : what >= 0 && what <= 4 && i == 0;
        return such ? going(what, i, n, fine) : -1;
    }

    long mills(int n, int row, int what) {
        if (n < 1 || n > 10 || what < 0 || what > 1) {
            return -1;
        }
        int[] worths = new int[n];
        int all = 0;
        for (int k = 0; k < n; k++) {
            int sin = row >>> 2 * k & 3;
            if (!sin(sin)) {
                return -1;
            }
            worths[k] = text.worth.get(sin);
            all += worths[k];
        }
        int best = -1;
        int least = 0;
        for (int bits = (1 << n) - 1; bits >= 0; bits--) {
            int second = 0;
            for (int k = 0; k < n; k++) {
                second += (bits >> k) % 2 * worths[k];
            }
            int greater = Math.max(second, all - second);
            if (best < 0 || greater <= least) {
                best = bits;
                least = greater;
            }
        }
        return what == 0 ? least : best;
    }

    /** All rows of partners (how many there are: left), the sum of each, the greatest and then the least row by numbers. */
    private int[] bestPartners(long[] sum) {
        int people = text.size(1);
        int[] best = null;
        int[] row = new int[people];
        int ways = 1;
        for (int k = 0; k < people; k++) {
            ways *= people + 1;
        }
        for (int way = 0; way < ways; way++) {
            int rest = way;
            int alone = 0;
            for (int k = people - 1; k >= 0; k--) {
                row[k] = rest % (people + 1);
                alone += row[k] == people ? 1 : 0;
                rest /= people + 1;
            }
            boolean fair = alone == people % 2;
            long together = 0;
            for (int k = 0; k < people && fair; k++) {
                fair = row[k] == people || row[k] != k && row[row[k]] == k;
                if (fair && row[k] < people && row[k] > k) {
                    long value = law(3, k, row[k]);
                    together += value == Long.MIN_VALUE ? 0 : value;
                }
            }
            if (fair && (best == null || together > sum[0])) {
                best = row.clone();
                sum[0] = together;
            }
        }
        return best;
    }

    long pairs() {
        long[] sum = new long[1];
        if (text.size(1) == 0) {
            return Long.MIN_VALUE;
        }
        bestPartners(sum);
        return sum[0];
    }

    long paired(int person) {
        if (!person(person)) {
            return -1;
        }
        int partner = bestPartners(new long[1])[person];
        return partner == text.size(1) ? -2 : partner;
    }

    long lies(int seed, int person, int n) {
        if (seed < 0 || !person(person) || n < 1 || n > 40) {
            return -1;
        }
        State s = now.copy();
        s.drawn = seed;
        int lies = 0;
        for (int k = 0; k < n; k++) {
            int sin = chance(s, person);
            lies += sin >= 0 && s.left(person, sin) == 0 ? 1 : 0;
        }
        return lies;
    }

    long known(int n) {
        if (n < -1 || n > now.sacks.size()) {
            return 0;
        }
        now.known = n;
        return 1;
    }

    long fits() {
        int bits = 0;
        for (int k = 0; k <= text.size(3); k++) {
            Node law = k < text.size(3) ? text.mays.get(k) : text.laws[0];
            boolean all = true;
            for (int j = 0; j < now.sacks.size() && (now.known < 0 || j < now.known); j++) {
                Sack s = now.sacks.get(j);
                all &= fineBy(law, s.then, s.person, s.sin) == s.fine;
            }
            bits |= all ? 1 << k : 0;
        }
        return bits;
    }

    long undo() {
        if (undos.isEmpty()) {
            return -1;
        }
        State old = undos.remove(undos.size() - 1);
        old.drawn = now.drawn;
        old.known = now.known;
        now = old;
        return undos.size();
    }

    long keep() {
        image = now.copy();
        return now.day;
    }

    long back() {
        if (image == null) {
            return -1;
        }
        now = image.copy();
        undos.clear();
        return now.day;
    }

    long count(int what) {
        switch (what) {
            case 0: case 1: case 2: case 3: return text.size(what);
            case 4: return text.knots;
            case 5: return now.day;
            case 6: return now.sacks.size();
            case 7: return now.known;
            case 8: return undos.size();
            case 9: return now.grain;
            case 10: return now.worn;
            case 11: return now.flour(0);
            default: return -1;
        }
    }
}
