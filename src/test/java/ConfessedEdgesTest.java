import java.util.function.Supplier;

/** Every bound that the document names of what is confessed, asked, fallen and baked (Terms 2, promises 6 to 17). */
public final class ConfessedEdgesTest {
    private static final long ERROR = Long.MIN_VALUE;
    private static final int LEAST = Integer.MIN_VALUE;
    private static final int MOST = Integer.MAX_VALUE;
    private static final String TWO = "sin a 7;sin b 20;person p 30 did a 2;person q 60 did a 1 did b 3;";
    private static final String LAWS = "law grind worth * 2 - times;law wear 2 + lie;law want worth - 8;law pair worth - times;";

    private static void is(String call, long got, long want) {
        Due.due(call, got, want);
    }

    private static void is(String call, boolean got, boolean want) {
        Due.due(call, got, want);
    }

    /** Numbers that name none of so many. */
    private static int[] noneOf(int size) {
        return new int[] {-1, size, size + 1, -size - 2, LEAST, MOST, LEAST + 1, MOST - 1, 1 << 16, 1 << 30};
    }

    private static ConfessionMill used() {
        ConfessionMill mill = Due.mill(TWO + LAWS + "seed 3;cake c 9 6 4;cake d 0 2 0;");
        mill.confess(1, 1);
        mill.keep();
        mill.fall(0, 1);
        mill.bake(1);
        mill.confess(0, 1);
        return mill;
    }

    // "IndexOutOfBoundsException: no such PERSON. NoSuchElementException: no such what."
    private static void look() {
        for (int people = 0; people <= 5; people++) {
            StringBuilder text = new StringBuilder("sin a 1;");
            for (int k = 0; k < people; k++) {
                text.append("person ").append((char) ('a' + k)).append(' ').append(k * 25).append(" did a ").append(k + 1).append(';');
            }
            ConfessionMill mill = Due.mill(text.toString());
            for (int k = 0; k < people; k++) {
                is("HONEST of " + k, Due.look(mill, k, 0), k * 25);
                is("PRIDE of " + k, Due.look(mill, k, 3), k + 1);
            }
            for (int person : noneOf(people)) {
                is("look(" + person + ", 0) of " + people, Due.look(mill, person, 0), Due.OUTSIDE);
                is("look(" + person + ", 5) of " + people, Due.look(mill, person, 5), Due.OUTSIDE);
            }
        }
        for (int what : noneOf(5)) {
            is("look(1, " + what + ")", Due.look(used(), 1, what), Due.NO_SUCH);
        }
        Seen.unchanged("look(2, 0)", ConfessedEdgesTest::used, mill -> Due.look(mill, 2, 0), Due.OUTSIDE);
        Seen.unchanged("look(1, 5)", ConfessedEdgesTest::used, mill -> Due.look(mill, 1, 5), Due.NO_SUCH);
        is("none at first", Due.look(new ConfessionMill(), 0, 9), Due.OUTSIDE);
    }

    // "NONE: no such ones." of did, fine, law, confess, ask, fall
    private static void noSuchOnes() {
        ConfessionMill mill = used();
        for (int none : new int[] {-1, 2, LEAST, MOST}) {
            is("did(" + none + ", 0, 0)", mill.did(none, 0, 0), -1);
            is("did(0, " + none + ", 1)", mill.did(0, none, 1), -1);
            is("did(0, 0, " + none + ")", mill.did(0, 0, none), -1);
            is("fine(" + none + ", 0)", mill.fine(none, 0), -1);
            is("fine(0, " + none + ")", mill.fine(0, none), -1);
            is("confess(" + none + ", 0)", mill.confess(none, 0), -1);
            is("confess(0, " + none + ")", mill.confess(0, none), -1);
            is("ask(" + none + ")", mill.ask(none), -1);
            is("fall(" + none + ", 0)", mill.fall(none, 0), -1);
            is("fall(0, " + none + ")", mill.fall(0, none), -1);
            for (int what = 0; what <= 3; what++) {
                is("law(" + what + ", " + none + ", 1)", mill.law(what, none, 1), ERROR);
                is("law(" + what + ", 0, " + none + ")", mill.law(what, 0, none), ERROR);
            }
        }
        Seen.sameFromNowOn("behind calls of no such ones", mill, used());
        for (ConfessionMill bare : new ConfessionMill[] {Due.mill("sin a 1;"), Due.mill("person p 1;"), new ConfessionMill()}) {
            is("one of them is missing: did", bare.did(0, 0, 0), -1);
            is("fine", bare.fine(0, 0), -1);
            is("law", bare.law(0, 0, 0), ERROR);
            is("confess", bare.confess(0, 0), -1);
            is("fall", bare.fall(0, 0), -1);
        }
    }

    // "what 0: how often done, 1: LEFT"; LEFT: "(told, and FALLS) less how often it was confessed truly"
    private static void left() {
        ConfessionMill mill = Due.mill("sin a 7;person p 30 did a 1;");
        is("one is left", mill.did(0, 0, 1), 1);
        mill.confess(0, 0);
        is("it was truly", mill.sack(0, 4), 0);
        is("none is left", mill.did(0, 0, 1), 0);
        is("as often done", mill.did(0, 0, 0), 1);
        mill.confess(0, 0);
        is("invented", mill.sack(1, 4), 1);
        is("none is left still", mill.did(0, 0, 1), 0);
        is("pride is not below 0", Due.look(mill, 0, 3), 0);
        mill.fall(0, 0);
        is("a fall: one is left", mill.did(0, 0, 1), 1);
        is("done twice", mill.did(0, 0, 0), 2);
        mill.confess(0, 0);
        is("truly again", mill.sack(2, 4), 0);
        is("three confessed", Due.look(mill, 0, 1), 3);
        is("one of these invented", Due.look(mill, 0, 2), 1);
        is("one fall, confessed or not", Due.look(mill, 0, 4), 1);
    }

    // "It grinds grist, or what is left of the grain"
    private static void grist() {
        for (int grist : new int[] {1, 2, 50, 98, 99}) {
            ground(grist, grist - 1, grist - 1, -1);
            ground(grist, grist, grist, -1);
            ground(grist, grist + 1, grist, 1);
            ground(grist, 2 * grist, grist, grist);
        }
        ground(99, 9999, 99, 99);
    }

    private static void ground(int grist, int grain, int first, int second) {
        ConfessionMill mill = Due.mill(TWO + "grist " + grist + ";grain " + grain + ";");
        String how = " of grist " + grist + ", grain " + grain;
        is("first" + how, mill.confess(0, 0), first == 0 ? -2 : 0);
        is("in it" + how, mill.sack(0, 3), first == 0 ? -1 : first);
        is("grain left" + how, mill.count(9), grain - first);
        is("second" + how, mill.confess(0, 0), second < 0 ? -2 : 1);
        is("in that" + how, mill.sack(1, 3), second);
        is("grain left then" + how, mill.count(9), grain - first - Math.max(0, second));
        mill.undo();
        mill.undo();
        is("grain undone" + how, mill.count(9), grain);
    }

    // "-2: no grain, 60 SACKS" of confess; NONE is told ahead of it
    private static void noGrain() {
        Supplier<ConfessionMill> bare = () -> {
            ConfessionMill mill = Due.mill(TWO + "seed 1;grain 6;");
            mill.keep();
            mill.confess(0, 0);
            mill.confess(1, 1);
            return mill;
        };
        is("the second has the last one", bare.get().sack(1, 3), 1);
        Seen.unchanged("confess without grain", bare, mill -> mill.confess(0, 0), -2);
        Seen.unchanged("a lie without grain", bare, mill -> mill.confess(0, 1), -2);
        Seen.unchanged("ask without grain", bare, mill -> mill.ask(0), -2);
        Seen.unchanged("no such one without grain", bare, mill -> mill.confess(2, 0), -1);
        Seen.unchanged("no such sin without grain", bare, mill -> mill.confess(0, 2), -1);
        Seen.unchanged("ask no such one without grain", bare, mill -> mill.ask(2), -1);
        is("a fall needs none", bare.get().fall(0, 0), 1);
        is("FINE needs none", bare.get().fine(0, 0), 7);
    }

    private static ConfessionMill sacks(int size) {
        ConfessionMill mill = Due.mill(TWO + "seed 1;grain 9999;grist 2;cake c 0 1 9;cake d 99 1 9;");
        mill.keep();
        for (int k = 0; k < size; k++) {
            is("sack", mill.confess(k % 2, k / 2 % 2), k);
        }
        return mill;
    }

    private static void sixtySacks() {
        is("the 60th", sacks(59).confess(0, 0), 59);
        is("the 60th asked", sacks(59).ask(0), 59);
        is("60", sacks(60).count(6), 60);
        Supplier<ConfessionMill> full = () -> sacks(60);
        Seen.unchanged("a 61st", full, mill -> mill.confess(0, 0), -2);
        Seen.unchanged("a 61st lie", full, mill -> mill.confess(0, 1), -2);
        Seen.unchanged("a 61st asked", full, mill -> mill.ask(1), -2);
        Seen.unchanged("no such one at 60", full, mill -> mill.confess(-1, 0), -1);
        Seen.unchanged("ask no such one at 60", full, mill -> mill.ask(2), -1);
        ConfessionMill mill = sacks(60);
        mill.bake(0);
        is("a cake makes no room", mill.confess(0, 0), -2);
        mill.undo();
        mill.undo();
        is("undone, there is room", mill.confess(0, 0), 59);
    }

    private static void fineBy(String law, int want) {
        ConfessionMill mill = Due.mill("sin a 42;person p 1 did a 1;" + law);
        is("fine by " + law, mill.fine(0, 0), want);
        is("sack by " + law, mill.sack(mill.confess(0, 0), 2), want);
        is("flour at it by " + law, mill.flour(want), 5);
        is("flour beyond it by " + law, mill.flour(want + 1), want == 999 ? -1 : 0);
    }

    // "with the FINE E of grind (0 .. 999; WORTH without, with an ERROR)"
    private static void fineness() {
        fineBy("", 42);
        fineBy("law grind 0 - 9999;", 0);
        fineBy("law grind 0 - 1;", 0);
        fineBy("law grind 0;", 0);
        fineBy("law grind 1;", 1);
        fineBy("law grind 998;", 998);
        fineBy("law grind 999;", 999);
        fineBy("law grind 1000;", 999);
        // 2 to the 32 and one more: cut by bits it would be 1
        fineBy("law grind 4096 * 4096 * 256 + 1;", 999);
        fineBy("law grind 0 - 4096 * 4096 * 256 + 1;", 0);
        fineBy("law grind 1 / 0;", 42);
        fineBy("law grind 1 / (1 - times - 1);", 42);
        fineBy("law grind 9999 * 9999 * 9999 * 2;", 42);
        is("WORTH 0 without", Due.mill("sin a 0;person p 1;").fine(0, 0), 0);
        is("WORTH 99 with an ERROR", Due.mill("sin a 99;person p 1;law grind 0 / 0;").fine(0, 0), 99);
    }

    private static void wornBy(String law, int want) {
        ConfessionMill mill = Due.mill(TWO + "stone 10;" + law);
        mill.confess(0, 0);
        is("worn by " + law, mill.count(10), 10 + want);
        mill.confess(0, 0);
        is("and again by " + law, mill.count(10), 10 + 2 * want);
    }

    // "the stone is WORN by E of wear more (0 .. 99; 1 without, with an ERROR)"
    private static void wear() {
        wornBy("", 1);
        wornBy("law wear 0 - 9999;", 0);
        wornBy("law wear 0 - 1;", 0);
        wornBy("law wear 0;", 0);
        wornBy("law wear 1;", 1);
        wornBy("law wear 98;", 98);
        wornBy("law wear 99;", 99);
        wornBy("law wear 100;", 99);
        wornBy("law wear 4096 * 4096 * 256 + 1;", 99);
        wornBy("law wear 1 / 0;", 1);
        wornBy("law wear 9999 * 9999 * 9999 * 2;", 1);
        // the most that 60 sacks can wear: 99999 is never come to
        ConfessionMill mill = Due.mill(TWO + "stone 999;law wear 99;grist 1;");
        for (int k = 0; k < 60; k++) {
            mill.confess(0, 0);
        }
        is("worn by 60 sacks", mill.count(10), 999 + 60 * 99);
    }

    private static void isThen(String name, int first, int second, int lie) {
        ConfessionMill mill = Due.mill("sin a 7;sin b 5;person p 30 did a 2;person q 1 did b 9;stone 4;law wear 3;law grind " + name + ";");
        mill.confess(0, 0);
        mill.days(1);
        mill.confess(0, 0);
        mill.confess(0, 0);
        is(name + " at first", mill.sack(0, 2), first);
        is(name + " of another behind it", mill.sack(2, 2), second);
        is(name + " of a lie", mill.sack(3, 2), lie);
    }

    // "NAMES, as they are ahead of it"; on day 0 one of a day by itself (a of p) comes between the first and the second
    private static void namesAhead() {
        isThen("worth", 7, 7, 7);
        isThen("times", 0, 2, 3);
        isThen("worn", 4, 10, 13);
        isThen("pride", 2, 0, 0);
        isThen("lie", 0, 1, 1);
        isThen("honest", 30, 30, 30);
        isThen("day", 0, 1, 1);
        ConfessionMill mill = Due.mill("sin a 7;person p 30 did a 1;law wear 1 + lie * 10 + times * 20 + pride * 30;");
        mill.confess(0, 0);
        is("wear as it is ahead", mill.count(10), 31);
        mill.confess(0, 0);
        is("wear of a lie", mill.count(10), 31 + 31);
    }

    private static void valueIs(String law, long want) {
        is("value of " + law, Due.mill(TWO + "law wear " + law + ";").law(1, 0, 0), want);
    }

    // "ERROR: / by 0, a value above 10 to the 12 or below 0 by more than that"
    private static void errors() {
        String far = "(9999 * 9999 * 9999 + 9999 * 9999 * 3 + 9999 * 3 + 1)";
        valueIs(far, 1000000000000L);
        valueIs(far + " - 1", 999999999999L);
        valueIs(far + " + 1", ERROR);
        valueIs(far + " + 0", 1000000000000L);
        valueIs(far + " * 1", 1000000000000L);
        valueIs(far + " * 2", ERROR);
        valueIs(far + " * 2 / 2", ERROR);
        valueIs(far + " * 0", 0);
        valueIs(far + " / 1", 1000000000000L);
        valueIs(far + " / (0 - 1)", -1000000000000L);
        valueIs("0 - " + far, -1000000000000L);
        valueIs("1 - " + far, -999999999999L);
        valueIs("0 - " + far + " - 1", ERROR);
        valueIs("0 - 1 - " + far, ERROR);
        valueIs("(0 - " + far + ") * 2", ERROR);
        valueIs(far + " * (0 - 2)", ERROR);
        valueIs("(0 - " + far + ") * (0 - 1)", 1000000000000L);
        // 10 to the 6 by itself is the bound; 1000001 * 1000000 is beyond
        valueIs("(1000 * 1000) * (1000 * 1000)", 1000000000000L);
        valueIs("(1000 * 1000 + 1) * (1000 * 1000)", ERROR);
        valueIs("(1000 * 1000 + 1) * (1000 * 1000 - 1)", 999999999999L);
        valueIs("(0 - 1000 * 1000) * (1000 * 1000)", -1000000000000L);
        valueIs("(0 - 1000 * 1000 - 1) * (1000 * 1000)", ERROR);
        // 2 to the 64 and to the 63, which wrap around to 0 and below 0, and what would come out small
        valueIs("(4096 * 4096 * 256) * (4096 * 4096 * 256)", ERROR);
        valueIs("(4096 * 4096 * 256) * (4096 * 4096 * 128)", ERROR);
        valueIs("(0 - 4096 * 4096 * 256) * (4096 * 4096 * 256)", ERROR);
        valueIs("(0 - 4096 * 4096 * 256) * (0 - 4096 * 4096 * 256)", ERROR);
        valueIs("(4096 * 4096 * 256) * (4096 * 4096 * 256) + 7", ERROR);
        valueIs("1 / 0", ERROR);
        valueIs("0 / 0", ERROR);
        valueIs("1 / (1 - 1)", ERROR);
        valueIs("0 * (1 / 0)", ERROR);
        valueIs("not (1 / 0)", ERROR);
        valueIs("1 / 0 = 1 / 0", ERROR);
    }

    // "(what isn't 0 is as 1, both sides are worked out), / is cut towards 0"
    private static void truths() {
        valueIs("0 and 1 / 0", ERROR);
        valueIs("1 / 0 and 0", ERROR);
        valueIs("1 or 1 / 0", ERROR);
        valueIs("1 / 0 or 1", ERROR);
        valueIs("0 or 0", 0);
        valueIs("0 or (0 - 5)", 1);
        valueIs("9 or 0", 1);
        valueIs("7 or 7", 1);
        valueIs("7 and (0 - 7)", 1);
        valueIs("7 and 0", 0);
        valueIs("0 and 7", 0);
        valueIs("0 and 0", 0);
        valueIs("not 0", 1);
        valueIs("not 1", 0);
        valueIs("not (0 - 1)", 0);
        valueIs("not not 9", 1);
        String[] signs = {"<", "<=", "=", "<>", ">=", ">"};
        int[][] holds = {{1, 0, 0}, {1, 1, 0}, {0, 1, 0}, {1, 0, 1}, {0, 1, 1}, {0, 0, 1}};
        for (int k = 0; k < 6; k++) {
            for (int b = 4; b <= 6; b++) {
                valueIs("5 " + signs[k] + " " + b, holds[k][6 - b]);
                valueIs("(0 - 5) " + signs[k] + " (0 - " + b + ")", holds[k][b - 4]);
            }
        }
        valueIs("7 / 2", 3);
        valueIs("(0 - 7) / 2", -3);
        valueIs("7 / (0 - 2)", -3);
        valueIs("(0 - 7) / (0 - 2)", 3);
        valueIs("1 / 2", 0);
        valueIs("(0 - 1) / 2", 0);
        valueIs("6 / 3", 2);
    }

    // "Long.MIN_VALUE: an ERROR, no such law, no such ones (want: none is LEFT; pair: the second not above the first)"
    private static void law() {
        ConfessionMill mill = Due.mill(TWO + "person r 9;" + LAWS);
        for (int what : noneOf(4)) {
            is("law(" + what + ", 0, 1)", mill.law(what, 0, 1), ERROR);
        }
        String[] kinds = {"grind", "wear", "want", "pair"};
        for (int what = 0; what < 4; what++) {
            for (int other = 0; other < 4; other++) {
                ConfessionMill one = Due.mill("sin a 7;sin b 1;person p 30 did b 1;person q 1;law " + kinds[other] + " 1234;");
                is("law(" + what + ") with that of " + kinds[other], one.law(what, 0, 1), what == other ? 1234 : ERROR);
            }
            ConfessionMill errs = Due.mill("sin a 7;sin b 1;person p 30 did b 1;person q 1;law " + kinds[what] + " 1 / 0;");
            is("an ERROR of " + kinds[what], errs.law(what, 0, 1), ERROR);
        }
        is("a may is no such law", Due.mill(TWO + "may m 5;").law(0, 0, 0), ERROR);
        is("want of one left", mill.law(2, 1, 0), -1);
        mill.confess(1, 0);
        is("want of none left", mill.law(2, 1, 0), ERROR);
        is("grind of none left", mill.law(0, 1, 0), 13);
        mill.fall(1, 0);
        is("want of one fallen", mill.law(2, 1, 0), -1);
        for (int first = -1; first <= 3; first++) {
            for (int second = -1; second <= 3; second++) {
                boolean such = first >= 0 && second > first && second < 3;
                int[] worth = {14, 67, 0};
                is("pair of " + first + ", " + second, mill.law(3, first, second), such ? worth[first] - worth[second] : ERROR);
            }
        }
        Seen.unchanged("law(2)", ConfessedEdgesTest::used, one -> one.law(2, 1, 1), 12);
        Seen.unchanged("law(3)", ConfessedEdgesTest::used, one -> one.law(3, 0, 1), 14 - 47);
        Seen.unchanged("fine", ConfessedEdgesTest::used, one -> one.fine(0, 0), 13);
    }

    /** The n-th number from a seed, by the document's own words. */
    private static long number(long seed, int n) {
        long last = seed;
        for (int k = 0; k < n; k++) {
            last = (last * 1103515245L + 12345L) % 2147483648L;
        }
        return last / 65536;
    }

    // "a number modulo 100: if that is below HONEST and some SIN is LEFT"
    private static void askedByHonest() {
        for (int seed : new int[] {0, 1, 2, 77, 4711, 99998, 99999}) {
            int first = (int) (number(seed, 1) % 100);
            for (int honest : new int[] {0, first, first + 1, 100}) {
                ConfessionMill mill = Due.mill("seed " + seed + ";sin a 1;sin b 2;sin c 2;sin d 1;person p " + honest + " did a 1 did b 1;");
                is("asked", mill.ask(0), 0);
                boolean truly = first < honest;
                is("seed " + seed + ", HONEST " + honest, mill.sack(0, 4), truly ? 0 : 1);
                int sin = truly ? 1 : 2 + (int) (number(seed, 2) % 2);
                is("which one", mill.sack(0, 1), sin);
                int drawn = truly ? 1 : 2;
                boolean next = number(seed, drawn + 1) % 100 < honest;
                is("asked again", mill.ask(0), 1);
                is("by the next number", mill.sack(1, 4), next ? 0 : 1);
            }
        }
    }

    // "the LEFT one with the greatest WORTH (the first of several)"; "if there are none such, nothing is confessed"
    private static void askedWhich() {
        ConfessionMill mill = Due.mill("sin a 0;sin b 9;sin c 9;sin d 8;person p 100 did a 1 did b 2 did c 1 did d 1;");
        int[] worst = {1, 1, 2, 3, 0};
        for (int k = 0; k < worst.length; k++) {
            is("asked " + k, mill.ask(0), k);
            is("the worst left " + k, mill.sack(k, 1), worst[k]);
            is("truly " + k, mill.sack(k, 4), 0);
        }
        is("none is left: invented", mill.ask(0), 5);
        is("a lie of HONEST 100", mill.sack(5, 4), 1);
        is("by the second of its numbers", mill.sack(5, 1), number(0, 7) % 4);

        Supplier<ConfessionMill> no = () -> Due.mill("seed 1;sin a 1;person p 30 did a 1;");
        is("38 is not below 30, and all is left", no.get().ask(0), -3);
        mill = no.get();
        mill.ask(0);
        is("no sack", mill.count(6), 0);
        is("nothing to undo", mill.undo(), -1);
        is("one number was drawn: 58", mill.ask(0), -3);
        is("then 13", mill.ask(0), 0);
        is("truly", mill.sack(0, 4), 0);
        mill = Due.mill("seed 1;person p 100;");
        is("no sins at all", mill.ask(0), -3);
        is("HONEST 0, all left", Due.mill("sin a 1;sin b 1;person p 0 did a 1 did b 1;").ask(0), -3);
        is("HONEST 0, one not left", Due.mill("sin a 1;sin b 1;person p 0 did a 1;").ask(0), 0);
    }

    // "no number is drawn then" of -2, and none of NONE
    private static void notDrawn() {
        Supplier<ConfessionMill> made = () -> {
            ConfessionMill mill = Due.mill("seed 1;grain 5;sin a 1;sin b 1;person p 39 did a 2;");
            mill.confess(0, 0);
            return mill;
        };
        ConfessionMill mill = made.get();
        is("no grain", mill.ask(0), -2);
        is("no such one", mill.ask(1), -1);
        mill.undo();
        mill.ask(0);
        is("38 is below 39 still", mill.sack(0, 4), 0);
        mill = sacks(60);
        is("60 sacks", mill.ask(0), -2);
        is("no such one at 60", mill.ask(9), -1);
        mill.undo();
        mill.fall(1, 0);
        mill.ask(1);
        // 38 of seed 1 is below HONEST 60, and so is 58: but 13 would be the third
        is("38 still", mill.sack(59, 4), 0);
        mill.undo();
        mill.fall(0, 0);
        mill.ask(0);
        is("58 then, not below 30", mill.sack(59, 4), 1);
        mill.undo();
        mill.ask(0);
        is("by 10113 that one, then 17515 modulo 100: a truth", mill.sack(59, 4), 0);
    }

    // As many PEOPLE and SINS as there may be: each of them by each call
    private static void fullTable() {
        StringBuilder text = new StringBuilder("seed 1;grain 9999;sin a 10;sin b 20;sin c 30;sin d 40;");
        for (int p = 0; p < 5; p++) {
            text.append("person ").append((char) ('a' + p)).append(" 100 did a 1 did b 2 did c 3 did d 4;");
        }
        ConfessionMill mill = Due.mill(text + "law pair worth * 1000 + times;");
        for (int p = 0; p < 5; p++) {
            for (int s = 0; s < 4; s++) {
                is("done", mill.did(p, s, 0), s + 1);
                is("fall", mill.fall(p, s), s + 1);
                is("one more", mill.did(p, s, 1), s + 2);
                is("confess", mill.confess(p, s), p * 4 + s);
                is("one less", mill.did(p, s, 1), s + 1);
                is("fine", mill.sack(p * 4 + s, 2), 10 * s + 10);
            }
            is("pride", Due.look(mill, p, 3), 10);
            is("confessed", Due.look(mill, p, 1), 4);
        }
        for (int p = 0; p < 5; p++) {
            is("asked", mill.ask(p), 20 + p);
            is("d", mill.sack(20 + p, 0) * 10 + mill.sack(20 + p, 1), p * 10 + 3);
        }
        // 10 * 1 + 20 * 2 + 30 * 3 + 40 * 3
        is("pair", mill.law(3, 3, 4), 260260);
        is("pairs", mill.pairs(), 2 * 260260);
        for (int k = 0; k < 15; k++) {
            mill.days(1);
            is("by itself: d of all by numbers, thrice each", mill.sack(25 + k, 0) * 10 + mill.sack(25 + k, 1), k / 3 * 10 + 3);
        }
        is("the last one has no d left", mill.did(4, 3, 1), 0);
        is("silent", mill.tried(1, 4, 20, 0), 60 * 5);
        is("all confessed up to 60", mill.days(50), 65);
        is("60", mill.count(6), 60);
    }

    // "how many the PERSON has; -2: the SIN was done 99 times"
    private static void fall() {
        for (int told : new int[] {0, 1, 9}) {
            Supplier<ConfessionMill> made = () -> {
                ConfessionMill mill = Due.mill("sin a 1;sin b 1;person p 50" + (told == 0 ? "" : " did a " + told) + ";person q 1;");
                for (int k = told; k < 99; k++) {
                    is("fall", mill.fall(0, 0), k - told + 1);
                }
                return mill;
            };
            is("done 99 times", made.get().did(0, 0, 0), 99);
            is("left 99 times", made.get().did(0, 0, 1), 99);
            Seen.unchanged("a fall behind 99 times", made, mill -> mill.fall(0, 0), -2);
            ConfessionMill mill = made.get();
            mill.confess(0, 0);
            is("confessed, it was done 99 times still", mill.fall(0, 0), -2);
            is("another sin", mill.fall(0, 1), 99 - told + 1);
            is("another one", mill.fall(1, 0), 1);
            mill.undo();
            mill.undo();
            mill.undo();
            mill.undo();
            is("undone to 98", mill.did(0, 0, 0), 98);
            is("the 99th time", mill.fall(0, 0), 99 - told);
        }
    }

    // "Of a SACK ... NONE: no such ones."; "All flour now with a FINE at least so much (0 .. 999); NONE: no such number."
    private static void sackAndFlour() {
        ConfessionMill mill = new ConfessionMill();
        is("no sack", mill.sack(0, 0), -1);
        is("no flour at 0", mill.flour(0), 0);
        is("no flour at 999", mill.flour(999), 0);
        for (int size : new int[] {1, 2, 60}) {
            mill = Due.mill("sin a 0;sin b 99;person p 1 did b 9;grist 1;law grind worth * 99;");
            for (int k = 0; k < size; k++) {
                mill.confess(0, k % 2);
            }
            is("the last of " + size, mill.sack(size - 1, 1), (size - 1) % 2);
            for (int none : noneOf(size)) {
                is("sack(" + none + ", 0) of " + size, mill.sack(none, 0), -1);
            }
            for (int none : noneOf(5)) {
                is("sack(0, " + none + ")", mill.sack(0, none), -1);
            }
            is("flour(0)", mill.flour(0), size);
            is("flour(1)", mill.flour(1), size / 2);
            is("flour(999)", mill.flour(999), size / 2);
            for (int none : noneOf(1000)) {
                is("flour(" + none + ")", mill.flour(none), -1);
            }
        }
        Seen.unchanged("sack", ConfessedEdgesTest::used, one -> one.sack(2, 0), -1);
        Seen.unchanged("flour", ConfessedEdgesTest::used, one -> one.flour(1000), -1);
    }

    // "true; false: no such CAKE, it is baked, its DAY is over, there isn't so much"
    private static void bake() {
        for (int none : noneOf(2)) {
            Seen.unchanged("bake(" + none + ")", ConfessedEdgesTest::used, mill -> mill.bake(none) ? 1 : 0, 0);
            is("baked(" + none + ")", used().baked(none), -1);
        }
        is("none of a new one", new ConfessionMill().bake(0), false);
        is("baked of a new one", new ConfessionMill().baked(0), -1);
        Seen.unchanged("bake what is baked", ConfessedEdgesTest::used, mill -> mill.bake(1) ? 1 : 0, 0);

        for (int wanted : new int[] {1, 4, 5, 6, 9, 10}) {
            ConfessionMill mill = twoSacks("cake c 7 " + wanted + " 0;");
            is("10 for " + wanted, mill.bake(0), true);
            is("left of 10", mill.flour(0), 10 - wanted);
            is("the oldest first", mill.sack(0, 3), Math.max(0, 5 - wanted));
            is("baked on 0", mill.baked(0), 0);
        }
        Seen.unchanged("10 for 11", () -> twoSacks("cake c 7 11 0;"), mill -> mill.bake(0) ? 1 : 0, 0);
        Seen.unchanged("7 for 8", () -> twoSacks("cake c 8 1 0;"), mill -> mill.bake(0) ? 1 : 0, 0);
        is("7 for 7", twoSacks("cake c 7 1 0;").bake(0), true);
        is("not baked", twoSacks("cake c 8 1 0;").baked(0), -2);
        is("FINE 0", twoSacks("cake c 0 1 0;").bake(0), true);
    }

    private static ConfessionMill twoSacks(String cakes) {
        ConfessionMill mill = Due.mill("sin a 7;person p 1;" + cakes);
        mill.keep();
        mill.confess(0, 0);
        mill.confess(0, 0);
        return mill;
    }

    // "a CAKE, once, by its DAY"; "The DAY on which a CAKE was baked; -2: it isn't; NONE: no such one."
    private static void byItsDay() {
        for (int day : new int[] {0, 1, 50, 99}) {
            for (int now = Math.max(0, day - 1); now <= day + 1; now++) {
                int today = now;
                Supplier<ConfessionMill> made = () -> {
                    ConfessionMill mill = Due.mill("sin a 7;person p 1;cake c 7 5 " + day + ";");
                    mill.days(today);
                    mill.confess(0, 0);
                    return mill;
                };
                is("not baked", made.get().baked(0), -2);
                if (now > day) {
                    Seen.unchanged("its day " + day + " is over", made, mill -> mill.bake(0) ? 1 : 0, 0);
                } else {
                    ConfessionMill mill = made.get();
                    is("by day " + day + " on " + now, mill.bake(0), true);
                    is("baked on " + now, mill.baked(0), now);
                    is("once", mill.bake(0), false);
                    mill.days(1);
                    is("still baked on " + now, mill.baked(0), now);
                }
            }
        }
    }

    // "flour of SACKS with at least its FINE, the least FINE first, of several the oldest; as much as it wants, or nothing"
    private static void whichFlour() {
        String sins = "sin a 30;sin b 10;sin c 20;sin d 9;person p 1;";
        int[] order = {0, 1, 2, 1, 3};
        int[][] want = {{5, 5, 5, 5, 5}, {5, 4, 5, 5, 5}, {5, 0, 5, 5, 5}, {5, 0, 5, 4, 5}, {5, 0, 5, 0, 5}, {5, 0, 4, 0, 5},
            {5, 0, 0, 0, 5}, {4, 0, 0, 0, 5}, {0, 0, 0, 0, 5}};
        int[] wanted = {21, 1, 5, 6, 10, 11, 15, 16, 20};
        for (int k = 0; k < wanted.length; k++) {
            ConfessionMill mill = Due.mill(sins + "cake c 10 " + wanted[k] + " 0;");
            for (int sin : order) {
                mill.confess(0, sin);
            }
            is("wanted " + wanted[k], mill.bake(0), k > 0);
            for (int sack = 0; sack < 5; sack++) {
                is("wanted " + wanted[k] + ", sack " + sack, mill.sack(sack, 3), want[k][sack]);
            }
        }
    }

    // "So many DAYS (0 .. 100) by themselves: which DAY it is then; NONE, and none: no such number, behind 100."
    private static void days() {
        for (int day : new int[] {0, 1, 40, 99, 100}) {
            Supplier<ConfessionMill> made = () -> {
                ConfessionMill mill = Due.mill(TWO + "seed 1;cake c 9 6 4;grain 30;");
                mill.days(day);
                mill.keep();
                mill.fall(0, 1);
                return mill;
            };
            is("days(0) on " + day, made.get().days(0), day);
            is("all that there are on " + day, made.get().days(100 - day), 100);
            for (int n : new int[] {101 - day, 101, -1, LEAST, MOST, MOST - day, LEAST + day}) {
                Seen.unchanged("days(" + n + ") on " + day, made, mill -> mill.days(n), -1);
            }
            Seen.unchanged("days(0) on " + day, made, mill -> mill.days(0), day);
            if (day < 100) {
                is("one more on " + day, made.get().days(1), day + 1);
            }
        }
        is("days of a new one", new ConfessionMill().days(100), 100);
    }

    private static void confessedOnDay(String text, int person, int sin) {
        ConfessionMill mill = Due.mill(text);
        mill.days(1);
        is("sacks of [" + text + "]", mill.count(6), person < 0 ? 0 : 1);
        is("person of [" + text + "]", mill.sack(0, 0), person);
        is("sin of [" + text + "]", mill.sack(0, 1), sin);
        is("truly", mill.sack(0, 4), person < 0 ? -1 : 0);
    }

    // "of all PEOPLE and SINS LEFT the greatest E of want above 0 (of several the first by PEOPLE, SINS; WORTH without such a law, 0 with an ERROR)"
    private static void wanted() {
        String two = "sin a 5;sin b 5;sin c 0;person p 1;person q 2 did b 1 did a 1 did c 1;person r 3 did a 1;";
        confessedOnDay(two, 1, 0);
        confessedOnDay(two + "law want 0;", -1, -1);
        confessedOnDay(two + "law want 0 - 1;", -1, -1);
        confessedOnDay(two + "law want 1;", 1, 0);
        confessedOnDay(two + "law want 1 - worth;", 1, 2);
        confessedOnDay(two + "law want honest;", 2, 0);
        confessedOnDay(two + "law want honest - 3;", -1, -1);
        confessedOnDay(two + "law want honest - 2;", 2, 0);
        confessedOnDay(two + "law want 1 / 0;", -1, -1);
        confessedOnDay(two + "law want honest / (honest - 3) + 9;", 1, 0);
        confessedOnDay(two + "law want (1 / (5 - worth)) * 9999;", -1, -1);
        confessedOnDay(two + "law want 1 / (5 - worth) + 1;", 1, 2);
        confessedOnDay(two + "law want 9999 * 9999 * 9999 + honest;", 2, 0);
        confessedOnDay(two + "law want lie;", -1, -1);
        confessedOnDay("sin a 0;person p 1 did a 9;", -1, -1);
        confessedOnDay("sin a 1;person p 1 did a 9;", 0, 0);
        confessedOnDay("sin a 1;person p 1;", -1, -1);
        confessedOnDay("sin a 1;", -1, -1);
        confessedOnDay("person p 1;", -1, -1);
        confessedOnDay("sin a 1;person p 1 did a 1;grain 0;", -1, -1);
        confessedOnDay("sin a 1;person p 1 did a 1;grain 1;", 0, 0);
    }

    // "is confessed, if there is grain and fewer than 60 SACKS; then CAKES not yet baked whose DAY it is are baked by numbers, if they can be"
    private static void dayBakes() {
        for (int size : new int[] {59, 60}) {
            ConfessionMill mill = Due.mill("sin a 3;person p 1 did a 9;grist 1;cake c 3 60 0;");
            for (int k = 0; k < size; k++) {
                mill.confess(0, 0);
            }
            mill.fall(0, 0);
            mill.days(1);
            is("60 sacks", mill.count(6), 60);
            is("what is left", mill.did(0, 0, 1), size == 59 ? 0 : 1);
            is("baked of what was ground that day, too", mill.baked(0), 0);
            is("of all sacks of 1", mill.count(11), 0);
        }
        ConfessionMill mill = Due.mill("sin a 3;person p 1 did a 9;cake c 3 6 1;cake d 3 4 1;cake e 3 3 1;cake f 3 1 0;cake g 3 1 2;");
        mill.days(1);
        is("not ahead of its day", mill.baked(0), -2);
        is("on its day 0", mill.baked(3), 0);
        is("a later one", mill.baked(4), -2);
        mill.days(1);
        // 9 are there on day 1: 6 for the first, then 4 of 3 can't be, then 3
        is("the first by numbers", mill.baked(0), 1);
        is("one that can't be", mill.baked(1), -2);
        is("one behind that", mill.baked(2), 1);
        is("all flour", mill.count(11), 0);
        mill.days(1);
        is("not behind its day", mill.baked(1), -2);
        is("on its day 2", mill.baked(4), 2);

        mill = Due.mill("sin a 3;person p 1 did a 9;cake c 3 1 99;");
        mill.days(99);
        is("day 99 didn't go by", mill.baked(0), -2);
        mill.days(1);
        is("it did", mill.baked(0), 99);
        mill = Due.mill("sin a 3;person p 1 did a 2;cake c 3 2 0;");
        mill.confess(0, 0);
        mill.bake(0);
        mill.days(1);
        is("baked by call, not again", mill.count(11), 8);
        mill = Due.mill("sin a 3;person p 1 did a 2;cake c 3 6 0;");
        mill.days(1);
        is("there isn't so much", mill.baked(0), -2);
        is("nothing was taken", mill.count(11), 5);
        mill = Due.mill("sin a 3;person p 1 did a 2;cake c 4 5 0;");
        mill.days(1);
        is("not so fine", mill.baked(0), -2);
        mill = Due.mill("sin a 3;person p 1 did a 2;grain 0;cake c 0 1 0;");
        mill.days(1);
        is("no grain, no cake", mill.baked(0), -2);
    }

    public static void main(String[] args) {
        look();
        noSuchOnes();
        left();
        grist();
        noGrain();
        sixtySacks();
        fineness();
        wear();
        namesAhead();
        errors();
        truths();
        law();
        askedByHonest();
        askedWhich();
        notDrawn();
        fullTable();
        fall();
        sackAndFlour();
        bake();
        byItsDay();
        whichFlour();
        days();
        wanted();
        dayBakes();
        Due.end("ConfessedEdgesTest");
    }
}
