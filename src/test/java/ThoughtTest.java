/** Promises 18 to 28: plan, planned, crumb, run, tried, mills, pairs, paired, lies, known, fits. */
public final class ThoughtTest {
    private static final long ERROR = Long.MIN_VALUE;
    private static final int MOST = Integer.MAX_VALUE;

    private static void is(String call, long got, long want) {
        Due.due(call, got, want);
    }

    private static void planIs(String what, ConfessionMill mill, int falls, int... slots) {
        is(what + ": falls", mill.plan(0, 0), falls);
        is(what + ": confessions", mill.plan(0, 1), falls < 0 ? falls : slots.length);
        for (int k = 0; k < slots.length; k++) {
            is(what + ": person " + k, mill.planned(0, k, 0), slots[k] / 10);
            is(what + ": sin " + k, mill.planned(0, k, 1), slots[k] % 10);
        }
        is(what + ": no more", mill.planned(0, slots.length, 0), -2);
    }

    private static void plan() {
        String two = "sin a 7;sin b 20;person p 30 did a 2;person q 60 did a 1 did b 1;";
        planIs("one is there", Due.mill(two + "cake c 20 5 0;"), 0, 11);
        planIs("the first of people", Due.mill(two + "cake c 7 5 0;"), 0, 0);
        planIs("two without a fall", Due.mill(two + "cake c 7 10 0;"), 0, 0, 0);
        planIs("four without a fall", Due.mill(two + "cake c 0 20 0;"), 0, 0, 0, 10, 11);
        planIs("a fall for the finer", Due.mill(two + "cake c 8 10 0;"), 1, 1, 11);
        planIs("three falls", Due.mill(two + "cake c 8 20 0;"), 3, 1, 1, 1, 11);
        planIs("more than four bring", Due.mill(two + "cake c 0 21 0;"), -2);
        planIs("too fine", Due.mill(two + "cake c 21 1 0;"), -2);
        planIs("too little grain", Due.mill(two + "grain 9;cake c 0 10 0;"), -2);
        planIs("just enough grain", Due.mill(two + "grain 9;cake c 0 9 0;"), 0, 0, 0);
        planIs("fewest falls ahead of fewest confessions",
            Due.mill("sin a 9;sin b 5;person p 1 did b 3;grist 3;law grind worth + times * 2;cake c 9 3 0;"), 0, 1, 1, 1);
        planIs("no people", Due.mill("sin a 1;cake c 0 1 0;"), -2);
        planIs("no sins", Due.mill("person p 1;cake c 0 1 0;"), -2);

        ConfessionMill mill = Due.mill(two + "cake c 8 5 0;cake d 0 5 0;law want 0;");
        mill.confess(1, 1);
        planIs("none is needed", mill, 0);
        is("the other one", mill.plan(1, 1), 0);
        mill.fall(0, 1);
        is("sacks stay", mill.count(6), 1);
        mill.bake(0);
        is("baked", mill.plan(0, 0), -1);
        is("baked: planned", mill.planned(0, 0, 0), -1);
        is("anew behind it", mill.plan(1, 1), 1);
        mill.days(3);
        is("its day doesn't matter", mill.plan(1, 1), 1);
        is("plan(2, 0)", mill.plan(2, 0), -1);
        is("plan(-1, 0)", mill.plan(-1, 0), -1);
        is("plan(1, 2)", mill.plan(1, 2), -1);
        is("plan(1, -1)", mill.plan(1, -1), -1);
        is("planned(2, 0, 0)", mill.planned(2, 0, 0), -1);
        is("planned(1, 0, 2)", mill.planned(1, 0, 2), -1);
        is("planned(1, -1, 0)", mill.planned(1, -1, 0), -1);
        is("planned(1, most, 0)", mill.planned(1, MOST, 0), -2);

        // pride by the fall that goes ahead: 1, and no lie
        planIs("as it is behind the fall", Due.mill("sin a 5;person p 1;law grind pride * 10 - lie * 5;cake c 10 5 0;"), 1, 0);
        mill = Due.mill("sin a 5;person p 1;grist 1;grain 999;cake c 5 60 0;");
        for (int k = 0; k < 58; k++) {
            mill.confess(0, 0);
        }
        planIs("up to 60 sacks", mill, 2, 0, 0);
        mill.confess(0, 0);
        mill.confess(0, 0);
        mill.bake(0);
        mill = Due.mill("sin a 5;person p 1;grist 1;grain 999;cake c 5 61 0;");
        for (int k = 0; k < 58; k++) {
            mill.confess(0, 0);
        }
        planIs("not beyond 60 sacks", mill, -2);
    }

    private static void crumb() {
        ConfessionMill mill = Due.mill("sin a 10;sin b 10;sin c 10;sin d 11;person p 60 did a 1 did b 2;");
        mill.confess(0, 2);
        mill.confess(0, 0);
        is("true ones", mill.crumb(0, 0), 3);
        is("invented ones", mill.crumb(0, 1), 4);
        is("40 of", mill.crumb(0, 2), 1);
        is("160", mill.crumb(0, 3), 4);
        mill.confess(0, 0);
        mill.days(2);
        is("as all was then", mill.crumb(1, 0), 3);
        is("as it was later", mill.crumb(2, 0), 2);
        is("as it was later, invented", mill.crumb(2, 1), 5);
        is("80 of", mill.crumb(2, 2), 4);
        is("140", mill.crumb(2, 3), 7);
        is("crumb(9, 0)", mill.crumb(9, 0), -1);
        is("crumb(-1, 0)", mill.crumb(-1, 0), -1);
        is("crumb(0, 4)", mill.crumb(0, 4), -1);
        is("crumb(0, -1)", mill.crumb(0, -1), -1);

        mill = Due.mill("sin a 10;person p 0 did a 1;person q 100;person r 0;");
        mill.confess(0, 0);
        mill.confess(1, 0);
        mill.confess(2, 0);
        is("0 by 0 of a truth", mill.crumb(0, 2) * 10 + mill.crumb(0, 3), 1);
        is("0 by 0 of a lie", mill.crumb(1, 2) * 10 + mill.crumb(1, 3), 1);
        is("surely a lie", mill.crumb(2, 2) * 10 + mill.crumb(2, 3), 11);

        mill = Due.mill("sin a 10;sin b 12;person p 60 did a 1;law grind worth - lie * 2;");
        mill.confess(0, 0);
        is("truly", mill.crumb(0, 0), 1);
        is("or invented", mill.crumb(0, 1), 2);
        is("40 of 100", mill.crumb(0, 2) * 10 + mill.crumb(0, 3), 25);

        mill = Due.mill("sin a 10;sin b 15;person p 60 did a 2;stone 3;law wear 4;"
            + "law grind worth * (worn = 7) + pride * 5 + times * 2 - (worth > 10) * lie * 5;");
        mill.confess(0, 1);
        mill.confess(0, 0);
        mill.confess(0, 0);
        // behind the lie: worn 7, pride 2, times 1: 10 and 15 with 12 each, a lie 5 less
        is("worn, pride and times as then", mill.sack(1, 2), 22);
        is("as then, truly", mill.crumb(1, 0), 1);
        is("as then, invented", mill.crumb(1, 1), 2);
    }

    private static void run() {
        ConfessionMill mill = Due.mill("sin a 10;person p 50 did a 3;cake c 5 4 0;");
        is("what was baked counts", mill.run(1, 0), 5);
        is("of that fine", mill.run(1, 10), 5);
        is("not of a finer", mill.run(1, 11), 0);
        is("all three", mill.run(100, 0), 15);
        is("no day", mill.run(0, 0), 0);
        is("nothing changes", mill.count(6) + mill.count(5), 0);
        mill.days(1);
        is("what is there and comes", mill.run(1, 0), 6);
        is("run(99, 0)", mill.run(99, 0), 11);
        is("run(100, 0)", mill.run(100, 0), -1);
        is("run(-1, 0)", mill.run(-1, 0), -1);
        is("run(most, 0)", mill.run(MOST, 0), -1);
        is("run(1, 1000)", mill.run(1, 1000), -1);
        is("run(1, -1)", mill.run(1, -1), -1);
    }

    private static void tried() {
        ConfessionMill mill = Due.mill("sin a 0;sin b 5;sin c 3;person p 1 did a 1 did b 1;person q 1 did b 1 did c 1;"
            + "law grind worth * 10 - worn;law wear 4;law want worth;");
        // as it is: b of p 50, b of q 46, c of q 22
        is("as it is", mill.run(9, 23), 10);
        is("unworn", mill.tried(0, 0, 9, 50), 10);
        is("unworn at 30", mill.tried(0, 0, 9, 30), 15);
        is("p silent", mill.tried(1, 0, 9, 0), 10);
        is("q silent", mill.tried(1, 1, 9, 0), 5);
        is("no b", mill.tried(2, 1, 9, 0), 5);
        is("no c", mill.tried(2, 2, 9, 0), 10);
        is("least first", mill.tried(3, 0, 1, 1), 0);
        is("least: 0, 26, 42, 38", mill.tried(3, 0, 9, 27), 10);
        is("least: all", mill.tried(3, 0, 9, 0), 20);
        is("greatest above 0", mill.tried(4, 0, 9, 0), 15);
        is("nothing changes", mill.count(6) + mill.count(5) + mill.count(10), 0);
        is("tried(0, 1)", mill.tried(0, 1, 1, 0), -1);
        is("tried(3, 1)", mill.tried(3, 1, 1, 0), -1);
        is("tried(4, -1)", mill.tried(4, -1, 1, 0), -1);
        is("tried(1, 2)", mill.tried(1, 2, 1, 0), -1);
        is("tried(2, 3)", mill.tried(2, 3, 1, 0), -1);
        is("tried(5, 0)", mill.tried(5, 0, 1, 0), -1);
        is("tried(-1, 0)", mill.tried(-1, 0, 1, 0), -1);
        is("tried of 101 days", mill.tried(0, 0, 101, 0), -1);
        is("tried at 1000", mill.tried(0, 0, 1, 1000), -1);
        mill = Due.mill("sin a 3;person p 1 did a 1;law want 0;");
        is("want isn't asked by 3", mill.tried(3, 0, 1, 0), 5);
        is("nor by 4", mill.tried(4, 0, 1, 0), 5);
        is("it is by 0", mill.tried(0, 0, 1, 0), 0);
        is("the least is 99", Due.mill("sin a 99;person p 1 did a 1;").tried(3, 0, 1, 0), 5);
        mill = Due.mill("sin a 3;sin b 3;person p 1 did b 1;person q 1 did a 1;law grind honest + worth * 0 + (worth = 3);");
        is("of several the first by people", mill.tried(3, 0, 1, 0) + mill.tried(4, 0, 1, 0), 10);
    }

    private static void mills() {
        ConfessionMill mill = Due.mill("sin a 4;sin b 5;sin c 7;sin d 0;");
        is("one", mill.mills(1, 2, 0), 7);
        is("one: none for the second", mill.mills(1, 2, 1), 0);
        // b a c a b: 5 4 7 4 5, 25 in all
        int row = 1 | 0 << 2 | 2 << 4 | 0 << 6 | 1 << 8;
        is("five", mill.mills(5, row, 0), 13);
        is("five: 5 and 7, not 4 4 5", mill.mills(5, row, 1), 5);
        is("ten of a", mill.mills(10, 0, 0), 20);
        is("ten of a: the first five", mill.mills(10, 0, 1), 31);
        is("nothing worth", mill.mills(2, 15, 1), 0);
        is("mills(0, 0, 0)", mill.mills(0, 0, 0), -1);
        is("mills(11, 0, 0)", mill.mills(11, 0, 0), -1);
        is("mills(1, 0, 2)", mill.mills(1, 0, 2), -1);
        is("mills(1, 0, -1)", mill.mills(1, 0, -1), -1);
        mill = Due.mill("sin a 4;sin b 5;sin c 7;");
        is("no such sin", mill.mills(2, 12, 0), -1);
        is("a sin behind the row", mill.mills(1, 12, 0), 4);
    }

    private static void pairs() {
        is("no people", new ConfessionMill().pairs(), ERROR);
        String people = "person a 10;person b 20;person c 30;";
        ConfessionMill mill = Due.mill("person a 10;");
        is("one alone", mill.pairs(), 0);
        is("is left", mill.paired(0), -2);
        is("paired(1)", mill.paired(1), -1);
        is("paired(-1)", mill.paired(-1), -1);
        pairedIs("without a law", Due.mill(people + "person d 1;person e 1;"), 0, 1, 0, 3, 2, -2);
        pairedIs("four", Due.mill(people + "person d 1;law pair 7;"), 14, 1, 0, 3, 2);
        pairedIs("below 0", Due.mill("person a 1;person b 1;law pair 0 - 5;"), -5, 1, 0);
        pairedIs("below 0, odd", Due.mill(people + "law pair 0 - honest;"), -20, 1, 0, -2);
        pairedIs("an error is 0", Due.mill(people + "law pair honest / (honest - 30);"), 0, 2, -2, 0);
        pairedIs("the greatest", Due.mill(people + "law pair honest;"), 30, 2, -2, 0);
        pairedIs("by what is left", Due.mill("sin s 9;person a 1;person b 1 did s 2;person c 1;person d 1 did s 1;"
            + "law pair worth * times;"), 162, 2, 3, 0, 1);
    }

    private static void pairedIs(String what, ConfessionMill mill, long sum, int... partners) {
        is(what + ": sum", mill.pairs(), sum);
        for (int k = 0; k < partners.length; k++) {
            is(what + ": partner of " + k, mill.paired(k), partners[k]);
        }
    }

    // From seed 1 on the numbers are 16838, 5758, 10113, 17515, 31051, 5627, 23010.
    private static void lies() {
        ConfessionMill mill = Due.mill("sin a 1;sin b 1;person p 39 did a 1;person q 0 did a 1 did b 1;person r 100;seed 1;");
        is("another seed: 5758 first", mill.lies(1103527590, 0, 1), 1);
        is("38 is honest", mill.lies(1, 0, 1), 0);
        is("58 is not", mill.lies(1, 0, 2), 1);
        is("15 is honest", mill.lies(1, 0, 3), 1);
        is("51 is not", mill.lies(1, 0, 4), 2);
        is("10 is honest", mill.lies(1, 0, 5), 2);
        is("none that could be invented", mill.lies(1, 1, 40), 0);
        is("none that is left", mill.lies(2147483647, 2, 40), 40);
        is("nothing changes", mill.count(6), 0);
        is("no number is drawn", mill.ask(0) == 0 ? mill.sack(0, 4) : -9, 0);
        is("lies of 0", mill.lies(1, 0, 0), -1);
        is("lies of 41", mill.lies(1, 0, 41), -1);
        is("lies of seed -1", mill.lies(-1, 0, 1), -1);
        is("lies of person 3", mill.lies(1, 3, 1), -1);
        is("lies of person -1", mill.lies(1, -1, 1), -1);
        is("without grain", Due.mill("grain 0;sin a 1;person p 0;").lies(1, 0, 3), 3);
        is("without sins", Due.mill("person p 0;").lies(1, 0, 3), 0);
    }

    private static void knownAndFits() {
        ConfessionMill mill = Due.mill("sin a 7;sin b 0;person p 30 did a 3 did b 2;law grind worth + day;"
            + "may m worth;may n worth / (worth - 7) - worn;may o worth + day + lie;");
        is("nothing is known", mill.fits(), 15);
        mill.confess(0, 0);
        is("n errs: 7 by its worth", mill.fits(), 15);
        mill.confess(0, 1);
        is("n is below 0: 0", mill.fits(), 15);
        mill.days(1);
        is("m is 7 on day 0 alone", mill.fits(), 15);
        mill.confess(0, 0);
        is("day 1: 8, m and n are 7", mill.fits(), 12);
        mill.confess(0, 0);
        is("a lie", mill.fits(), 8);
        is("known(3)", mill.known(3) ? 1 : 0, 1);
        is("the first three", mill.fits(), 15);
        is("by three", mill.count(7), 3);
        is("known(6)", mill.known(6) ? 1 : 0, 0);
        is("known(-2)", mill.known(-2) ? 1 : 0, 0);
        is("still three", mill.count(7), 3);
        is("known(4)", mill.known(4) ? 1 : 0, 1);
        is("the first four", mill.fits(), 12);
        mill.confess(0, 0);
        is("not by those to come", mill.count(7), 4);
        is("known(0)", mill.known(0) ? 1 : 0, 1);
        is("by none", mill.fits(), 15);
        is("known(-1)", mill.known(-1) ? 1 : 0, 1);
        is("by all", mill.fits(), 8);
        is("count of all", mill.count(7), -1);
        is("no may", new ConfessionMill().fits(), 1);
    }

    public static void main(String[] args) {
        plan();
        crumb();
        run();
        tried();
        mills();
        pairs();
        lies();
        knownAndFits();
        Due.end("ThoughtTest");
    }
}
