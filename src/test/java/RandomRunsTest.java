import java.util.Random;

/** Random texts and calls, each answer compared with PlainMill's; the seeds are fixed, so it is the same each time. */
public final class RandomRunsTest {
    private static final String[] FREE = {"a", "b", "gin", "rob", "zzzzzz", "pride", "honest", "sinful", "toolong"};
    private static final String[] SIGNS = {"+", "-", "*", "/", "<", "<=", "=", "<>", ">=", ">", "and", "or"};
    private static final String[] NAMES = {"worth", "times", "worn", "pride", "lie", "honest", "day"};
    private static final String[] TOKENS = {";", "(", ")", "<", "=", ">", "not", "and", "+", "0", "7", "99999999999",
        "sin", "did", "law", "grind", "may", "x", "!", "\n", "", " ", "worth", "abcdefgh", "\u00e9", "A"};

    private final Random random;
    private final ConfessionMill mill = new ConfessionMill();
    private final PlainMill plain = new PlainMill();
    private final boolean small;
    private final StringBuilder story = new StringBuilder();
    private boolean differed;
    private int made;
    private int sins;
    private int people;
    private int cakes;

    private RandomRunsTest(long seed, boolean small) {
        random = new Random(seed);
        this.small = small;
    }

    private int upTo(int n) {
        return random.nextInt(n + 1);
    }

    private String pick(String[] row) {
        return row[random.nextInt(row.length)];
    }

    // ---- texts ----

    private String e(int depth) {
        if (depth <= 0 || upTo(3) == 0) {
            return upTo(2) == 0 ? Integer.toString(upTo(5) == 0 ? upTo(9999) : upTo(20)) : pick(NAMES);
        }
        switch (upTo(5)) {
            case 0: return "(" + e(depth - 1) + ")";
            case 1: return "(not " + e(depth - 1) + ")";
            default: return e(depth - 1) + (upTo(9) == 0 ? "" : " ") + pick(SIGNS) + " " + e(depth - 1);
        }
    }

    private String law() {
        switch (upTo(4)) {
            case 0: return "worth * " + upTo(9) + " - worn + times * " + upTo(4);
            case 1: return "worth + pride * " + upTo(5) + " - lie * " + upTo(9);
            case 2: return "worth * worth * worth * worth * worth * " + upTo(9999);
            case 3: return "honest / (" + pick(NAMES) + " - " + upTo(2) + ") + worth";
            default: return e(2);
        }
    }

    private String line() {
        switch (upTo(7)) {
            case 0: return "grain " + upTo(9) * upTo(60);
            case 1: return "grist " + (1 + upTo(8));
            case 2: return "stone " + upTo(20);
            case 3: return "seed " + upTo(99999);
            case 4: return "law grind " + law();
            case 5: return "law wear " + law();
            case 6: return "law want " + law();
            default: return "law pair " + law();
        }
    }

    /** A text without a fault, if one comes soon. */
    private String wholeText() {
        String text = someText();
        for (int k = 0; k < 40; k++) {
            PlainMill.Parser parser = new PlainMill.Parser(text);
            try {
                while (!parser.peek().isEmpty()) {
                    parser.line();
                }
                return text;
            } catch (PlainMill.Fault f) {
                text = someText();
            }
        }
        return text;
    }

    private String someText() {
        StringBuilder text = new StringBuilder();
        sins = upTo(19) == 0 ? 0 : 1 + upTo(small ? 1 : 3);
        people = upTo(19) == 0 ? 0 : 1 + upTo(small ? 2 : 4);
        for (int k = 0; k < sins; k++) {
            text.append("sin ").append((char) ('a' + k)).append(' ').append(upTo(4) == 0 ? 0 : upTo(99)).append(';');
        }
        for (int k = 0; k < people; k++) {
            text.append("person ").append((char) ('p' + k)).append(' ').append(upTo(100));
            for (int j = 0; j < sins; j++) {
                if (upTo(1) == 0) {
                    text.append(" did ").append((char) ('a' + j)).append(' ').append(1 + upTo(upTo(1) == 0 ? 1 : 8));
                }
            }
            text.append(";\n");
        }
        cakes = upTo(4);
        for (int k = 0; k < cakes; k++) {
            text.append("cake ").append((char) ('a' + k)).append(' ').append(upTo(4) * upTo(90)).append(' ')
                .append(1 + upTo(30)).append(' ').append(upTo(12)).append(';');
        }
        int mays = upTo(3);
        for (int k = 0; k < mays; k++) {
            text.append("may ").append((char) ('m' + k)).append(' ').append(law()).append(';');
        }
        int more = upTo(6);
        for (int k = 0; k < more; k++) {
            text.append(line()).append(';');
        }
        return text.toString();
    }

    private String brokenText() {
        StringBuilder text = new StringBuilder(wholeText());
        int changes = 1 + upTo(2);
        for (int k = 0; k < changes; k++) {
            int at = upTo(text.length());
            int end = Math.min(text.length(), at + upTo(3));
            text.replace(at, end, pick(upTo(1) == 0 ? TOKENS : FREE));
        }
        return text.toString();
    }

    private void tell(String text) {
        String cut = text.length() > 700 ? text.substring(0, 700) : text;
        int[] n = Due.numbersOf(cut);
        check("text(-1)", mill.text(-1), plain.text(-1));
        for (int k = 0; k < n.length; k += 5) {
            int[] five = {n[k], n[k + 1], n[k + 2], n[k + 3], n[k + 4]};
            check("feed", mill.feed(five[0], five[1], five[2], five[3], five[4]), plain.feed(five));
        }
        int length = Due.bytesOf(cut).length;
        check("text of " + cut, mill.text(length), plain.text(length));
        check("fault(0)", mill.fault(0), plain.fault(0));
        check("fault(1)", mill.fault(1), plain.fault(1));
    }

    // ---- calls ----

    private void check(String call, long got, long want) {
        made++;
        story.append(call).append(" = ").append(got).append('\n');
        Due.due("random run: " + call, got, want);
        differed |= got != want;
    }

    /** Mostly one of so many, sometimes one that there isn't. */
    private int among(int n) {
        return n == 0 || upTo(19) == 0 ? upTo(n + 2) - 1 : random.nextInt(n);
    }

    private void change() {
        int p = among(people);
        int s = among(sins);
        int c = among(cakes);
        switch (upTo(15)) {
            case 0: case 1: case 2: case 10: case 11: case 12: check("confess(" + p + ", " + s + ")", mill.confess(p, s), plain.confess(p, s)); break;
            case 3: case 4: check("ask(" + p + ")", mill.ask(p), plain.ask(p)); break;
            case 5: case 13: check("fall(" + p + ", " + s + ")", mill.fall(p, s), plain.fall(p, s)); break;
            case 6: check("bake(" + c + ")", mill.bake(c) ? 1 : 0, plain.bake(c)); break;
            case 7:
                int n = upTo(29) == 0 ? 50 + upTo(52) : upTo(3) - 1;
                check("days(" + n + ")", mill.days(n), plain.days(n));
                break;
            case 8: case 14: check("undo()", mill.undo(), plain.undo()); break;
            default:
                if (upTo(2) == 0) {
                    check("keep()", mill.keep(), plain.keep());
                } else if (upTo(2) == 0) {
                    check("back()", mill.back(), plain.back());
                } else {
                    int k = upTo(9) - 2;
                    check("known(" + k + ")", mill.known(k) ? 1 : 0, plain.known(k));
                }
        }
    }

    private void question() {
        int p = among(people);
        int s = among(sins);
        int c = among(cakes);
        int what = upTo(6) - 1;
        made++;
        int n = upTo(9) == 0 ? upTo(14) - 1 : upTo(Math.max(1, Math.min(12, mill.count(6))));
        int fine = upTo(3) == 0 ? upTo(1002) - 1 : upTo(60);
        switch (upTo(16)) {
            case 0: check("look(" + p + ", " + what + ")", Due.look(mill, p, what), plain.look(p, what)); break;
            case 1: check("did(" + p + ", " + s + ", " + what + ")", mill.did(p, s, what), plain.did(p, s, what)); break;
            case 2: check("fine(" + p + ", " + s + ")", mill.fine(p, s), plain.fine(p, s)); break;
            case 3: check("law(" + what + ", " + p + ", " + s + ")", mill.law(what, p, s), plain.law(what, p, s));
                check("law(3, " + s + ", " + p + ")", mill.law(3, s, p), plain.law(3, s, p));
                break;
            case 4: check("sack(" + n + ", " + what + ")", mill.sack(n, what), plain.sack(n, what)); break;
            case 5: check("flour(" + fine + ")", mill.flour(fine), plain.flour(fine)); break;
            case 6: check("baked(" + c + ")", mill.baked(c), plain.baked(c)); break;
            case 7: check("crumb(" + n + ", " + what + ")", mill.crumb(n, what), plain.crumb(n, what)); break;
            case 8: check("run(" + n + ", " + fine + ")", mill.run(n, fine), plain.run(n, fine)); break;
            case 9:
                check("tried(" + what + ", " + p + ", " + n + ", " + fine + ")",
                    mill.tried(what, p, n, fine), plain.tried(what, p, n, fine));
                check("tried(" + what + ", 0, " + n + ", " + fine + ")",
                    mill.tried(what, 0, n, fine), plain.tried(what, 0, n, fine));
                break;
            case 10:
                int row = random.nextInt() & (sins < 3 ? 0x55555 : 0xfffff);
                int half = among(2);
                check("mills(" + n + ", " + row + ", " + half + ")", mill.mills(n, row, half), plain.mills(n, row, half));
                break;
            case 11: check("pairs()", mill.pairs(), plain.pairs()); break;
            case 12: check("paired(" + p + ")", mill.paired(p), plain.paired(p)); break;
            case 13:
                int seed = random.nextInt() >>> upTo(20);
                check("lies(" + seed + ", " + p + ", " + n + ")", mill.lies(seed, p, n), plain.lies(seed, p, n));
                break;
            case 14: check("fits()", mill.fits(), plain.fits()); break;
            case 15:
                int letters = Due.letters(String.valueOf((char) ('a' + upTo(20))));
                check("named(" + what + ", " + letters + ")", mill.named(what, letters), plain.named(what, letters));
                break;
            default: plans(c, upTo(4) - (upTo(9) == 0 ? 1 : 0), upTo(9) == 0 ? what : upTo(1)); break;
        }
        int counted = upTo(13) - 1;
        check("count(" + counted + ")", mill.count(counted), plain.count(counted));
    }

    private void plans(int cake, int k, int what) {
        if (!small) {
            return;
        }
        check("plan(" + cake + ", " + what + ")", mill.plan(cake, what), plain.plan(cake, what));
        check("planned(" + cake + ", " + k + ", " + what + ")", mill.planned(cake, k, what), plain.planned(cake, k, what));
    }

    /** Up to so many calls; a text takes some forty more, and 512 are the most that a mill is used for. */
    private void go(int calls) {
        tell(upTo(9) == 0 ? brokenText() : wholeText());
        while (made < calls && !differed) {
            if (upTo(2) == 0) {
                change();
            } else {
                question();
            }
            if (upTo(99) == 0) {
                tell(upTo(1) == 0 ? brokenText() : wholeText());
            }
        }
        if (differed) {
            System.out.println("---- the run that differed ----\n" + story);
            Due.end("RandomRunsTest");
        }
    }

    private static void faults(long seed) {
        RandomRunsTest run = new RandomRunsTest(seed, false);
        run.tell(run.brokenText());
        run.tell(run.brokenText());
        run.go(0);
    }

    public static void main(String[] args) {
        int runs = args.length > 0 ? Integer.parseInt(args[0]) : 250;
        long first = args.length > 1 ? Long.parseLong(args[1]) : 1;
        for (long seed = first; seed < first + runs; seed++) {
            new RandomRunsTest(seed, true).go(460);
            new RandomRunsTest(-seed, false).go(460);
            for (int k = 0; k < 20; k++) {
                faults(seed * 1000 + k);
            }
        }
        Due.end("RandomRunsTest");
    }
}
