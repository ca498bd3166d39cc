/** Promises 6 to 17: look, did, fine, law, confess, ask, fall, sack, flour, bake, baked, days. */
public final class ConfessedTest {
    private static final long ERROR = Long.MIN_VALUE;
    private static final int LEAST = Integer.MIN_VALUE;
    private static final int MOST = Integer.MAX_VALUE;
    private static final String TWO = "sin a 7;sin b 20;person p 30 did a 2;person q 60 did a 1 did b 3;";

    private static void is(String call, long got, long want) {
        Due.due(call, got, want);
    }

    private static void look() {
        ConfessionMill mill = Due.mill(TWO);
        is("HONEST", Due.look(mill, 1, 0), 60);
        is("PRIDE", Due.look(mill, 1, 3), 4);
        mill.confess(1, 1);
        mill.confess(0, 1);
        mill.fall(0, 1);
        mill.fall(0, 0);
        is("confessed", Due.look(mill, 1, 1), 1);
        is("invented", Due.look(mill, 1, 2), 0);
        is("pride behind it", Due.look(mill, 1, 3), 3);
        is("confessed a lie", Due.look(mill, 0, 1), 1);
        is("lies", Due.look(mill, 0, 2), 1);
        is("pride with falls", Due.look(mill, 0, 3), 4);
        is("falls", Due.look(mill, 0, 4), 2);
        is("look(2, 0)", Due.look(mill, 2, 0), Due.OUTSIDE);
        is("look(-1, 9)", Due.look(mill, -1, 9), Due.OUTSIDE);
        is("look(most, 0)", Due.look(mill, MOST, 0), Due.OUTSIDE);
        is("look(0, 5)", Due.look(mill, 0, 5), Due.NO_SUCH);
        is("look(0, -1)", Due.look(mill, 0, -1), Due.NO_SUCH);
        is("look(1, least)", Due.look(mill, 1, LEAST), Due.NO_SUCH);
    }

    private static void did() {
        ConfessionMill mill = Due.mill(TWO);
        mill.confess(1, 1);
        mill.fall(1, 1);
        mill.confess(1, 1);
        is("done", mill.did(1, 1, 0), 4);
        is("left", mill.did(1, 1, 1), 2);
        is("not done", mill.did(0, 1, 0), 0);
        is("did(0, 0, 2)", mill.did(0, 0, 2), -1);
        is("did(0, 0, -1)", mill.did(0, 0, -1), -1);
        is("did(2, 0, 0)", mill.did(2, 0, 0), -1);
        is("did(0, 2, 0)", mill.did(0, 2, 0), -1);
        is("did(-1, 0, 0)", mill.did(-1, 0, 0), -1);
        is("did(0, -1, 1)", mill.did(0, -1, 1), -1);
    }

    private static void fineIs(String law, int want) {
        ConfessionMill mill = Due.mill(TWO + "stone 4;law grind " + law + ";");
        is("fine by " + law, mill.fine(0, 0), want);
        is("sack by " + law, mill.confess(0, 0) == 0 ? mill.sack(0, 2) : -9, want);
    }

    private static void fine() {
        fineIs("999", 999);
        fineIs("1000", 999);
        fineIs("9999 * 9999", 999);
        fineIs("0", 0);
        fineIs("0 - 1", 0);
        fineIs("1 / 0", 7);
        fineIs("9999 * 9999 * 9999 * 9999", 7);
        fineIs("worn * 10 + pride", 42);
        ConfessionMill mill = Due.mill(TWO + "law grind worth * 10 + lie;");
        is("fine of a lie", mill.fine(0, 1), 201);
        is("fine of a truth", mill.fine(1, 1), 200);
        is("no law", Due.mill(TWO).fine(0, 1), 20);
        is("fine(2, 0)", mill.fine(2, 0), -1);
        is("fine(0, 2)", mill.fine(0, 2), -1);
        is("fine(-1, 0)", mill.fine(-1, 0), -1);
        is("fine(0, least)", mill.fine(0, LEAST), -1);
        is("nothing is ground by it", mill.count(6), 0);
    }

    private static void valueIs(String law, long want) {
        ConfessionMill mill = Due.mill(TWO + "stone 4;law grind " + law + ";");
        is("value of " + law, mill.law(0, 0, 0), want);
    }

    private static void values() {
        valueIs("7 - 2 - 1", 4);
        valueIs("2 + 3 * 4", 14);
        valueIs("(2 + 3) * 4", 20);
        valueIs("100 / 5 / 2", 10);
        valueIs("100 / (5 / 2)", 50);
        valueIs("7 / 2 * 2", 6);
        valueIs("(0 - 7) / 2", -3);
        valueIs("7 / (0 - 2)", -3);
        valueIs("0 / 5", 0);
        valueIs("1 / 0", ERROR);
        valueIs("0 and 1 / 0", ERROR);
        valueIs("1 or 1 / 0", ERROR);
        valueIs("not 0", 1);
        valueIs("not 5", 0);
        valueIs("not not 5", 1);
        valueIs("not 1 < 2", 0);
        valueIs("not 0 and 0", 0);
        valueIs("not (0 and 0)", 1);
        valueIs("3 and 4", 1);
        valueIs("3 and 0", 0);
        valueIs("0 or 9", 1);
        valueIs("1 or 0 and 0", 1);
        valueIs("(1 or 0) and 0", 0);
        valueIs("(0 - 1) and 1", 1);
        valueIs("1 + 1 = 2", 1);
        valueIs("2 <> 2", 0);
        valueIs("2<=2", 1);
        valueIs("2>=3", 0);
        valueIs("3>2", 1);
        valueIs("2<2", 0);
        valueIs("1 < 2 and 3 > 4 or 5 = 5", 1);
        valueIs("(1 < 2) < 3", 1);
        valueIs("worth * 100 + worn * 10 + pride", 742);
        valueIs("times + lie + day", 0);
        valueIs("honest", 30);
        String far = "9999 * 9999 * 9999 + 9999 * 9999 * 3 + 9999 * 3 + 1";
        valueIs(far, 1000000000000L);
        valueIs(far + " + 1", ERROR);
        valueIs(far + " + 1 - 1", ERROR);
        valueIs("0 - (" + far + ")", -1000000000000L);
        valueIs("0 - (" + far + ") - 1", ERROR);
        valueIs("(" + far + ") * (0 - 1)", -1000000000000L);
        valueIs("(9999 * 9999 * 9999) * (9999 * 9999 * 9999)", ERROR);
        valueIs("(0 - 9999 * 9999 * 9999) * (9999 * 9999 * 9999)", ERROR);
        valueIs("(9999 * 9999 * 9999) * 0", 0);
        // 2 to the 64 in all, which wraps around to 0
        valueIs("(4096 * 4096 * 256) * (4096 * 4096 * 256)", ERROR);
    }

    // Every sign beside every other, with brackets and not, as the plain model reads it.
    private static void signsTogether() {
        String[] signs = {"or", "and", "<", "<=", "=", "<>", ">=", ">", "+", "-", "*", "/"};
        int[][] sides = {{0, 1, 1}, {1, 0, 0}, {5, 2, 3}, {2, 7, 2}, {3, 3, 1}};
        for (String first : signs) {
            for (String second : signs) {
                for (int[] n : sides) {
                    sameValue(n[0] + " " + first + " " + n[1] + " " + second + " " + n[2]);
                    sameValue("(" + n[0] + " " + first + " " + n[1] + ") " + second + " " + n[2]);
                    sameValue(n[0] + " " + first + " (" + n[1] + " " + second + " " + n[2] + ")");
                    sameValue("not " + n[0] + " " + first + " " + n[1] + " " + second + " " + n[2]);
                    sameValue(n[0] + " " + first + " not " + n[1] + " " + second + " " + n[2]);
                    sameValue("not (" + n[0] + " " + first + " " + n[1] + ") " + second + " " + n[2]);
                }
            }
        }
    }

    private static void sameValue(String law) {
        String text = "sin a 7;person p 30;law wear " + law + ";";
        ConfessionMill mill = new ConfessionMill();
        PlainMill plain = new PlainMill();
        int[] n = Due.numbersOf(text);
        for (int k = 0; k < n.length; k += 5) {
            plain.feed(new int[] {n[k], n[k + 1], n[k + 2], n[k + 3], n[k + 4]});
        }
        is("text of " + law, Due.tell(mill, text), plain.text(text.length()));
        is("fault of " + law, mill.fault(1), plain.fault(1));
        is("value of " + law, mill.law(1, 0, 0), plain.law(1, 0, 0));
    }

    private static void law() {
        ConfessionMill mill = Due.mill(TWO + "law wear 9999 + lie;law want worth - 20;"
            + "law pair worth * 1000 + times * 100 + pride * 10 + honest + lie + worn;person r 5;");
        is("no law of grind", mill.law(0, 0, 0), ERROR);
        is("wear as it is", mill.law(1, 0, 0), 9999);
        is("wear of a lie", mill.law(1, 0, 1), 10000);
        is("want", mill.law(2, 1, 0), -13);
        is("want of none left", mill.law(2, 0, 1), ERROR);
        // first 2 a: 14, second a and 3 b: 67, two left, HONEST 60
        is("pair", mill.law(3, 0, 1), 14000 + 6700 + 20 + 60);
        is("pair with none", mill.law(3, 1, 2), 67000 + 40 + 5);
        is("pair of one", mill.law(3, 1, 1), ERROR);
        is("pair backwards", mill.law(3, 1, 0), ERROR);
        is("pair(0, 3)", mill.law(3, 0, 3), ERROR);
        is("pair(-1, 0)", mill.law(3, -1, 0), ERROR);
        is("law(4)", mill.law(4, 0, 0), ERROR);
        is("law(-1)", mill.law(-1, 0, 0), ERROR);
        is("law(1, 3, 0)", mill.law(1, 3, 0), ERROR);
        is("law(1, 0, 2)", mill.law(1, 0, 2), ERROR);
        is("law(2, 0, -1)", mill.law(2, 0, -1), ERROR);
        mill.confess(1, 1);
        is("worn by wear", mill.law(3, 0, 1), 14000 + 4700 + 20 + 60 + 99);
    }

    private static void wornIs(String law, int want) {
        ConfessionMill mill = Due.mill(TWO + "stone 4;" + law);
        mill.confess(0, 0);
        is("worn by " + law, mill.count(10), want);
        mill.undo();
        is("worn behind undo of " + law, mill.count(10), 4);
    }

    private static void confess() {
        ConfessionMill mill = Due.mill(TWO + "grain 12;law grind worth - times * 5 - worn;law wear 2 + lie;");
        is("first", mill.confess(0, 0), 0);
        is("second", mill.confess(0, 0), 1);
        is("grain", mill.count(9), 2);
        is("third", mill.confess(0, 0), 2);
        is("what was left of the grain", mill.sack(2, 3), 2);
        is("no grain", mill.confess(0, 0), -2);
        is("no such one without grain", mill.confess(2, 0), -1);
        is("fine 0", mill.sack(0, 2), 7);
        is("fine 1", mill.sack(1, 2), 0);
        is("truly", mill.sack(1, 4), 0);
        is("invented", mill.sack(2, 4), 1);
        is("left", mill.did(0, 0, 1), 0);
        is("worn", mill.count(10), 2 + 2 + 3);
        is("confess(-1, 0)", mill.confess(-1, 0), -1);
        is("confess(0, 4)", mill.confess(0, 4), -1);
        wornIs("", 5);
        wornIs("law wear 1 / 0;", 5);
        wornIs("law wear 100;", 103);
        wornIs("law wear 0 - 3;", 4);
        wornIs("law wear times + pride * 10 + worn;", 28);
        mill = Due.mill(TWO + "grain 9999;grist 1;");
        for (int k = 0; k < 60; k++) {
            is("sack " + k, mill.confess(0, 0), k);
        }
        is("60 sacks", mill.confess(0, 0), -2);
        is("ask at 60 sacks", mill.ask(0), -2);
        is("days at 60 sacks", mill.days(1), 1);
        is("still 60", mill.count(6), 60);
    }

    // From seed 1 on the numbers are 16838, 5758, 10113, 17515, 31051, 5627, 23010.
    private static void ask() {
        String sins = "seed 1;sin a 1;sin b 2;sin c 2;";
        ConfessionMill mill = Due.mill(sins + "person p 39 did a 1 did c 1 did b 1;");
        is("38 below 39", mill.ask(0), 0);
        is("the greatest worth, first of several", mill.sack(0, 1), 1);
        is("not a lie", mill.sack(0, 4), 0);
        mill = Due.mill(sins + "person p 38 did a 1;");
        is("38 not below 38", mill.ask(0), 0);
        is("5758 modulo 2", mill.sack(0, 1), 1);
        is("a lie", mill.sack(0, 4), 1);
        is("undone", mill.undo(), 0);
        is("10113 modulo 100", mill.ask(0), 0);
        is("a truth", mill.sack(0, 1), 0);
        mill = Due.mill(sins + "person p 39 did a 1;");
        mill.ask(0);
        mill.undo();
        mill.ask(0);
        is("drawn stays drawn: 58, then 10113 modulo 2", mill.sack(0, 1), 2);
        mill = Due.mill("seed 1;sin a 1;person p 30 did a 1;");
        is("nothing by 38", mill.ask(0), -3);
        is("nothing by 58", mill.ask(0), -3);
        is("nothing to undo", mill.count(8), 0);
        is("truly by 13", mill.ask(0), 0);
        mill = Due.mill("seed 1;person p 30;");
        is("no sins", mill.ask(0), -3);
        is("ask(1)", mill.ask(1), -1);
        is("ask(-1)", mill.ask(-1), -1);
        mill = Due.mill("seed 1;grain 0;sin a 1;person p 39 did a 1;");
        is("no grain", mill.ask(0), -2);
        is("no such one", mill.ask(1), -1);
        mill = Due.mill("seed 1;grain 5;sin a 1;sin b 1;person p 39 did a 2;");
        mill.confess(0, 0);
        is("no grain draws no number", mill.ask(0), -2);
        mill.undo();
        is("so it is 38 still", mill.ask(0), 0);
        is("truly", mill.sack(0, 4), 0);
    }

    private static void fall() {
        ConfessionMill mill = Due.mill(TWO);
        is("first", mill.fall(1, 0), 1);
        is("another sin", mill.fall(1, 1), 2);
        is("another one", mill.fall(0, 1), 1);
        is("left", mill.did(0, 1, 1), 1);
        is("fall(2, 0)", mill.fall(2, 0), -1);
        is("fall(0, 2)", mill.fall(0, 2), -1);
        is("fall(0, -1)", mill.fall(0, -1), -1);
        for (int k = 3; k <= 99; k++) {
            is("fall to " + k, mill.fall(0, 0), k - 1);
        }
        is("done", mill.did(0, 0, 0), 99);
        is("99 times", mill.fall(0, 0), -2);
        is("falls stay", Due.look(mill, 0, 4), 98);
        is("others can", mill.fall(0, 1), 99);
    }

    private static void sackAndFlour() {
        ConfessionMill mill = Due.mill(TWO + "grist 3;");
        mill.confess(1, 0);
        mill.confess(0, 1);
        is("person", mill.sack(1, 0), 0);
        is("sin", mill.sack(1, 1), 1);
        is("fine", mill.sack(1, 2), 20);
        is("held", mill.sack(1, 3), 3);
        is("lie", mill.sack(1, 4), 1);
        is("truth", mill.sack(0, 4), 0);
        is("sack(2, 0)", mill.sack(2, 0), -1);
        is("sack(-1, 0)", mill.sack(-1, 0), -1);
        is("sack(0, 5)", mill.sack(0, 5), -1);
        is("sack(0, -1)", mill.sack(0, -1), -1);
        is("flour(0)", mill.flour(0), 6);
        is("flour(7)", mill.flour(7), 6);
        is("flour(8)", mill.flour(8), 3);
        is("flour(20)", mill.flour(20), 3);
        is("flour(21)", mill.flour(21), 0);
        is("flour(999)", mill.flour(999), 0);
        is("flour(1000)", mill.flour(1000), -1);
        is("flour(-1)", mill.flour(-1), -1);
        is("all flour", mill.count(11), 6);
    }

    private static void bake() {
        ConfessionMill mill = Due.mill(TWO + "sin c 9;cake x 8 12 1;cake y 0 9 0;cake z 8 1 9;");
        mill.confess(0, 1);
        mill.confess(0, 2);
        mill.confess(0, 0);
        mill.confess(0, 2);
        is("fine enough: least first, of several the oldest", mill.bake(0) ? 1 : 0, 1);
        is("first 9", mill.sack(1, 3), 0);
        is("second 9", mill.sack(3, 3), 0);
        is("20", mill.sack(0, 3), 3);
        is("7 is not fine enough", mill.sack(2, 3), 5);
        is("baked(0)", mill.baked(0), 0);
        is("again", mill.bake(0) ? 1 : 0, 0);
        is("8 are not 9", mill.bake(1) ? 1 : 0, 0);
        is("nothing was taken", mill.count(11), 8);
        is("baked(1)", mill.baked(1), -2);
        mill.confess(0, 2);
        mill.days(1);
        is("its day is over", mill.bake(1) ? 1 : 0, 0);
        is("one that is later", mill.bake(2) ? 1 : 0, 1);
        is("baked on day 1", mill.baked(2), 1);
        is("bake(3)", mill.bake(3) ? 1 : 0, 0);
        is("bake(-1)", mill.bake(-1) ? 1 : 0, 0);
        is("baked(3)", mill.baked(3), -1);
        is("baked(-1)", mill.baked(-1), -1);
        mill = Due.mill("sin a 5;person p 1;cake c 5 7 2;");
        mill.confess(0, 0);
        mill.confess(0, 0);
        mill.bake(0);
        is("of several the oldest", mill.sack(0, 3) * 10 + mill.sack(1, 3), 3);
        mill = Due.mill("sin a 5;person p 1;cake c 5 5 2;");
        mill.days(2);
        mill.confess(0, 0);
        is("on its day, just so much", mill.bake(0) ? 1 : 0, 1);
        is("on day 2", mill.baked(0), 2);
    }

    private static void days() {
        ConfessionMill mill = Due.mill(TWO + "cake x 20 6 1;cake y 0 3 1;cake z 0 9 0;");
        is("days(0)", mill.days(0), 0);
        is("days(-1)", mill.days(-1), -1);
        is("days(1)", mill.days(1), 1);
        is("worth without a law", mill.sack(0, 0) * 10 + mill.sack(0, 1), 11);
        is("days(1)", mill.days(1), 2);
        is("cakes by numbers", mill.baked(0), 1);
        is("then the other", mill.baked(1), 1);
        is("one that could not", mill.baked(2), -2);
        is("days(99)", mill.days(99), -1);
        is("day stays", mill.count(5), 2);
        is("days(most)", mill.days(MOST), -1);
        is("days(98)", mill.days(98), 100);
        is("all left was confessed", mill.count(6), 6);
        is("of equal worth the first by people", mill.sack(3, 0), 0);
        is("days(0) on 100", mill.days(0), 100);

        mill = Due.mill(TWO + "law want (worth = 7) * honest - 30;");
        mill.days(3);
        is("only above 0", mill.count(6), 1);
        is("by the law", mill.sack(0, 0) * 10 + mill.sack(0, 1), 10);
        mill = Due.mill(TWO + "law want worth / (worth - 7);");
        mill.days(9);
        is("an error is 0", mill.count(6), 3);
        mill = Due.mill(TWO + "law grind day * 10 + 1;grain 7;");
        mill.days(9);
        is("as long as there is grain", mill.count(6), 2);
        is("the day is a name", mill.sack(1, 2), 11);
        mill = Due.mill(TWO);
        mill.fall(0, 0);
        mill.days(0);
        is("days(0) leaves what can be undone", mill.count(8), 1);
        mill.days(1);
        is("a day went by", mill.undo(), -1);
    }

    public static void main(String[] args) {
        look();
        did();
        fine();
        values();
        signsTogether();
        law();
        confess();
        ask();
        fall();
        sackAndFlour();
        bake();
        days();
        Due.end("ConfessedTest");
    }
}
