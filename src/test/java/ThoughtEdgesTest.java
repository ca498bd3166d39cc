import java.util.function.Supplier;

/** Every bound that the document names of PLAN, CRUMB, RUN, TRIED, TWO MILLS, PAIRED, lies, KNOWN, FITS (Terms 3, promises 18 to 28). */
public final class ThoughtEdgesTest {
    private static final long ERROR = Long.MIN_VALUE;
    private static final int LEAST = Integer.MIN_VALUE;
    private static final int MOST = Integer.MAX_VALUE;

    private static void is(String call, long got, long want) {
        Due.due(call, got, want);
    }

    private static void is(String call, boolean got, boolean want) {
        Due.due(call, got, want);
    }

    /** Numbers that name none of so many. */
    private static int[] noneOf(int size) {
        return new int[] {-1, size, size + 1, -size - 2, LEAST, MOST, LEAST + 1, MOST - 1, 1 << 16, 1 << 30};
    }

    private static ConfessionMill used() {
        ConfessionMill mill = Due.mill("sin a 7;sin b 20;person p 30 did a 2;person q 60 did a 1 did b 3;seed 3;"
            + "cake c 9 6 4;cake d 0 2 0;law grind worth * 2 - times;law want worth - 8;law pair worth - times;may m worth * 2;");
        mill.confess(1, 1);
        mill.keep();
        mill.bake(1);
        mill.fall(0, 1);
        mill.confess(0, 0);
        return mill;
    }

    // ---- PLAN ----

    /** The plan of the first cake: FALLS (-2: there is none), then PERSON and SIN of each confession as two digits. */
    private static void planIs(String what, ConfessionMill mill, int falls, int... slots) {
        is(what + ": falls", mill.plan(0, 0), falls);
        is(what + ": confessions", mill.plan(0, 1), falls < 0 ? -2 : slots.length);
        for (int k = 0; k < 6; k++) {
            is(what + ": person " + k, mill.planned(0, k, 0), k < slots.length ? slots[k] / 10 : -2);
            is(what + ": sin " + k, mill.planned(0, k, 1), k < slots.length ? slots[k] % 10 : -2);
        }
    }

    // "0 .. 4 confessions"; "-2: there is none"
    private static void upToFour() {
        String one = "sin a 7;person p 1 did a 9;";
        ConfessionMill mill = Due.mill(one + "cake c 7 5 0;");
        mill.confess(0, 0);
        planIs("none, as it could be baked now", mill, 0);
        planIs("1 to 5 by one", Due.mill(one + "cake c 7 1 0;"), 0, 0);
        planIs("5 by one", Due.mill(one + "cake c 7 5 0;"), 0, 0);
        planIs("6 by two", Due.mill(one + "cake c 7 6 0;"), 0, 0, 0);
        planIs("15 by three", Due.mill(one + "cake c 7 15 0;"), 0, 0, 0, 0);
        planIs("16 by four", Due.mill(one + "cake c 7 16 0;"), 0, 0, 0, 0, 0);
        planIs("20 by four", Due.mill(one + "cake c 7 20 0;"), 0, 0, 0, 0, 0);
        planIs("21 by five: none", Due.mill(one + "cake c 7 21 0;"), -2);
        planIs("8 of 7: none", Due.mill(one + "cake c 8 1 0;"), -2);
        planIs("99 at once", Due.mill(one + "grist 99;cake c 7 99 0;"), 0, 0);
        mill = Due.mill(one + "cake c 7 21 0;");
        mill.confess(0, 0);
        planIs("16 more by four", mill, 0, 0, 0, 0, 0);
        mill = Due.mill(one + "cake c 7 26 0;");
        mill.confess(0, 0);
        planIs("21 more: none", mill, -2);
    }

    // "each needs grain, and fewer than 60 SACKS"
    private static void needsOfPlan() {
        String one = "sin a 7;person p 1 did a 9;";
        planIs("no grain", Due.mill(one + "grain 0;cake c 0 1 0;"), -2);
        planIs("1 of grain", Due.mill(one + "grain 1;cake c 0 1 0;"), 0, 0);
        planIs("1 of grain for 2", Due.mill(one + "grain 1;cake c 0 2 0;"), -2);
        planIs("11 of grain for 11", Due.mill(one + "grain 11;cake c 0 11 0;"), 0, 0, 0, 0);
        planIs("10 of grain for 11", Due.mill(one + "grain 10;cake c 0 11 0;"), -2);
        // a first confession that isn't fine enough takes its grain
        String rising = "sin a 7;person p 1 did a 9;law grind times;";
        planIs("two ahead of the fine one", Due.mill(rising + "grain 11;cake c 2 1 0;"), 0, 0, 0, 0);
        planIs("no grain for the fine one", Due.mill(rising + "grain 10;cake c 2 1 0;"), -2);
        planIs("three ahead", Due.mill(rising + "cake c 3 5 0;"), 0, 0, 0, 0, 0);
        planIs("four ahead: none", Due.mill(rising + "cake c 4 1 0;"), -2);
        for (int size = 55; size <= 60; size++) {
            for (int wanted = 1; wanted <= 5; wanted++) {
                ConfessionMill mill = Due.mill("sin a 7;sin b 8;person p 1 did b 9;grist 1;cake c 8 " + wanted + " 0;");
                for (int k = 0; k < size; k++) {
                    mill.confess(0, 0);
                }
                boolean can = wanted <= 4 && size + wanted <= 60;
                is("plan of " + wanted + " at " + size, mill.plan(0, 0), can ? 0 : -2);
                is("so many", mill.plan(0, 1), can ? wanted : -2);
            }
        }
    }

    // "the fewest FALLS, of these the fewest confessions, of these the first by PEOPLE, then SINS of the first one, then the second and so on"
    private static void bestOfPlans() {
        planIs("no falls by four, not one fall by one",
            Due.mill("sin a 3;sin b 0;person p 1 did b 9;law grind worth + times;cake c 3 1 0;"), 0, 1, 1, 1, 1);
        planIs("no falls by four, not one fall by one that comes behind",
            Due.mill("sin a 0;sin b 3;person p 1 did a 9;law grind worth + times;cake c 3 1 0;"), 0, 0, 0, 0, 0);
        planIs("one fall by one, not by two that come ahead",
            Due.mill("sin a 4;sin b 5;person p 1;law grind worth + times;cake c 5 1 0;"), 1, 1);
        planIs("one fall by one, not behind one that is left",
            Due.mill("sin a 0;sin b 5;person p 1 did a 1;cake c 5 1 0;"), 1, 1);
        planIs("one fall by two, not behind one that is left",
            Due.mill("sin a 0;sin b 5;person p 1 did a 1;person q 1 did b 1;cake c 5 10 0;"), 1, 1, 11);
        planIs("one fall by two",
            Due.mill("sin a 9;person p 1 did a 1;person q 1;cake c 9 10 0;"), 1, 0, 0);
        planIs("one confession of the second, not two of the first",
            Due.mill("sin a 5;sin b 10;person p 1 did a 2;person q 1 did b 1;law grind worth + times * 5;cake c 10 5 0;"), 0, 11);
        planIs("the first of people", Due.mill("sin a 9;sin b 9;person p 1;person q 1 did a 1;person r 1 did a 1 did b 1;cake c 9 5 0;"), 0, 10);
        planIs("the first of sins", Due.mill("sin a 8;sin b 9;sin c 9;person p 1 did c 1 did b 1;cake c 9 5 0;"), 0, 1);
        planIs("then the second", Due.mill("sin a 9;sin b 9;person p 1 did a 1 did b 1;person q 1 did a 1;cake c 9 10 0;"), 0, 0, 1);
        planIs("the second by people", Due.mill("sin a 9;sin b 9;person p 1 did b 1;person q 1 did a 1 did b 1;cake c 9 10 0;"), 0, 1, 10);
        // the first must be b: what comes behind a lesser pride is finer
        planIs("not the first by numbers where that isn't fine enough",
            Due.mill("sin a 9;sin b 9;person p 1 did a 1;person q 1 did b 1;law grind honest + (pride = 0);cake c 1 5 0;"), 0, 0);
        planIs("falls of several people", Due.mill("sin a 9;person p 1;person q 1;cake c 9 10 0;"), 2, 0, 0);
        planIs("four falls", Due.mill("sin a 9;person p 1;cake c 9 20 0;"), 4, 0, 0, 0, 0);
        planIs("three falls and one left", Due.mill("sin a 9;person p 1;person q 1 did a 1;cake c 9 20 0;"), 3, 0, 0, 0, 10);
    }

    // "nothing INVENTED: of which none is LEFT a FALL goes ahead"; "on this DAY"; "its DAY doesn't matter"
    private static void howPlansGo() {
        planIs("no lie in a plan", Due.mill("sin a 9;person p 1;law grind 9 - lie * 9;cake c 9 5 0;"), 1, 0);
        planIs("a lie would be fine", Due.mill("sin a 9;person p 1;law grind lie * 9;cake c 9 5 0;"), -2);
        planIs("the fall counts as pride", Due.mill("sin a 9;person p 1;law grind pride;cake c 1 5 0;"), 1, 0);
        planIs("and is gone behind it", Due.mill("sin a 9;person p 1;law grind pride;cake c 2 5 0;"), -2);
        planIs("worn by those ahead", Due.mill("sin a 9;person p 1 did a 9;law grind worn;law wear 3;cake c 9 5 0;"), 0, 0, 0, 0, 0);
        planIs("but not so far", Due.mill("sin a 9;person p 1 did a 9;law grind worn;law wear 3;cake c 10 5 0;"), -2);
        for (int day = 0; day <= 3; day++) {
            ConfessionMill mill = Due.mill("sin a 9;person p 1 did a 9;law want 0;law grind day;cake c 2 5 1;");
            mill.days(day);
            if (day < 2) {
                planIs("day " + day + " isn't fine enough", mill, -2);
            } else {
                planIs("day " + day + ", though its own is over", mill, 0, 0);
            }
        }
        ConfessionMill mill = Due.mill("sin a 9;person p 1 did a 9;law want 0;cake c 9 5 0;");
        mill.days(100);
        planIs("on day 100", mill, 0, 0);
        planIs("no people", Due.mill("sin a 9;cake c 0 1 0;"), -2);
        planIs("no sins", Due.mill("person p 9;cake c 0 1 0;"), -2);
    }

    // A plan is of the mill as it is now: behind each call that changes it, it is another
    private static void plansNow() {
        ConfessionMill mill = Due.mill("sin a 9;sin b 8;person p 1 did a 1;cake c 9 10 0;cake d 8 5 0;");
        planIs("at first", mill, 1, 0, 0);
        mill.fall(0, 0);
        planIs("behind a fall", mill, 0, 0, 0);
        mill.confess(0, 0);
        planIs("behind a confession", mill, 0, 0);
        mill.undo();
        planIs("undone", mill, 0, 0, 0);
        mill.undo();
        planIs("all undone", mill, 1, 0, 0);
        mill.keep();
        mill.confess(0, 0);
        planIs("kept, then confessed", mill, 1, 0);
        mill.bake(1);
        planIs("its flour is gone", mill, 2, 0, 0);
        mill.undo();
        planIs("and is there again", mill, 1, 0);
        mill.back();
        planIs("back", mill, 1, 0, 0);
        mill.fall(0, 0);
        planIs("ahead of a day", mill, 0, 0, 0);
        mill.days(1);
        // on that day a was confessed, and the second cake baked of it
        planIs("behind a day", mill, 1, 0, 0);
        Due.tell(mill, "sin");
        planIs("behind a fault", mill, 1, 0, 0);
        Due.tell(mill, "sin a 9;person p 1 did a 9;cake c 9 15 0;");
        planIs("behind a text", mill, 0, 0, 0, 0);
        Due.tell(mill, "seed 1;sin a 9;person p 100 did a 2;cake c 9 10 0;");
        planIs("another text", mill, 0, 0, 0);
        mill.ask(0);
        planIs("behind one asked", mill, 0, 0);
        is("planned, not asked for the plan", Due.mill("sin a 1;sin b 2;person p 1;person q 1 did b 1;cake c 2 1 0;").planned(0, 0, 0), 1);
        is("its sin", Due.mill("sin a 1;sin b 2;person p 1;person q 1 did b 1;cake c 2 1 0;").planned(0, 0, 1), 1);
    }

    private static void planOfEach() {
        String cakes = "cake a 0 1 0;cake b 5 6 0;cake c 9 5 0;cake d 9 20 0;cake e 10 1 0;";
        int[] falls = {0, 1, 0, 3, -2};
        int[] steps = {1, 2, 1, 4, -2};
        int[] first = {0, 0, 1, 0, -2};
        int[] sins = {0, 1, 1, 1, -2};
        for (int turn = 0; turn < 5; turn++) {
            ConfessionMill mill = Due.mill("sin a 1;sin b 9;person p 1 did a 1;person q 1 did b 1;" + cakes);
            for (int k = 0; k < 10; k++) {
                int cake = (turn + k * 3) % 5;
                is("falls of cake " + cake, mill.plan(cake, 0), falls[cake]);
                is("confessions of cake " + cake, mill.plan(cake, 1), steps[cake]);
                is("first person of cake " + cake, mill.planned(cake, 0, 0), first[cake]);
                is("first sin of cake " + cake, mill.planned(cake, 0, 1), sins[cake]);
            }
        }
    }

    // "NONE: no such ones, baked."
    private static void noPlans() {
        is("no cakes", new ConfessionMill().plan(0, 0), -1);
        is("no cakes: planned", new ConfessionMill().planned(0, 0, 0), -1);
        ConfessionMill mill = used();
        for (int none : noneOf(2)) {
            is("plan(" + none + ", 0)", mill.plan(none, 0), -1);
            is("plan(0, " + none + ")", mill.plan(0, none), -1);
            is("planned(" + none + ", 0, 0)", mill.planned(none, 0, 0), -1);
            is("planned(0, 0, " + none + ")", mill.planned(0, 0, none), -1);
        }
        is("baked", mill.plan(1, 0), -1);
        is("baked: confessions", mill.plan(1, 1), -1);
        is("baked: planned", mill.planned(1, 0, 0), -1);
        is("baked: behind all", mill.planned(1, 9, 0), -1);
        mill.undo();
        mill.undo();
        is("not yet", mill.plan(1, 0), -1);
        mill.undo();
        is("not baked any more", mill.plan(1, 0), 0);
        ConfessionMill none = Due.mill("cake c 0 1 0;");
        is("no such what, where there is no plan", none.plan(0, 2), -1);
        is("no such what of planned, where there is no plan", none.planned(0, 0, 2), -1);
        is("no plan", none.planned(0, 0, 0), -2);
        is("k below 0", used().planned(0, -1, 0), -1);
        is("the last k", used().planned(0, MOST, 1), -2);
        Seen.unchanged("plan", ThoughtEdgesTest::used, one -> one.plan(0, 0), 0);
        Seen.unchanged("planned", ThoughtEdgesTest::used, one -> one.planned(0, 0, 0), -2);
        Seen.unchanged("plan of none", ThoughtEdgesTest::used, one -> one.plan(2, 0), -1);
    }

    // ---- CRUMB ----

    private static void crumbIs(String text, int person, int sin, int... want) {
        ConfessionMill mill = Due.mill(text);
        mill.confess(person, sin);
        for (int what = 0; what < 4; what++) {
            is("crumb(0, " + what + ") of [" + text + "]", mill.crumb(0, what), want[what]);
        }
        mill.fall(person, sin);
        mill.days(3);
        for (int what = 0; what < 4; what++) {
            is("crumb(0, " + what + ") later of [" + text + "]", mill.crumb(0, what), want[what]);
        }
    }

    // "truly (of those LEFT then), INVENTED (of those of which none was)"; "in least terms"; "(0 and 1, if it is 0 by 0)"; "NONE: no such ones."
    private static void crumb() {
        String four = "sin a 5;sin b 5;sin c 5;sin d 6;";
        crumbIs(four + "person p 50 did a 1;", 0, 0, 1, 6, 2, 3);
        crumbIs(four + "person p 50 did a 1;", 0, 1, 1, 6, 2, 3);
        crumbIs(four + "person p 50 did a 1;", 0, 3, 0, 8, 1, 1);
        crumbIs(four + "person p 50 did d 1;", 0, 3, 8, 0, 0, 1);
        crumbIs(four + "person p 0 did a 1;", 0, 0, 1, 6, 1, 1);
        crumbIs(four + "person p 100 did a 1;", 0, 0, 1, 6, 0, 1);
        crumbIs(four + "person p 0 did a 1 did b 1 did c 1;", 0, 0, 7, 0, 0, 1);
        crumbIs(four + "person p 100;", 0, 0, 0, 7, 0, 1);
        crumbIs(four + "person p 0 did d 1;", 0, 3, 8, 0, 0, 1);
        crumbIs(four + "person p 99 did a 1;", 0, 0, 1, 6, 2, 101);
        crumbIs(four + "person p 1 did a 1;", 0, 0, 1, 6, 198, 199);
        crumbIs(four + "person p 60 did a 1 did b 1;", 0, 2, 3, 4, 1, 4);
        crumbIs(four + "person p 75 did d 1;law grind 9;", 0, 0, 8, 7, 1, 2);
        crumbIs(four + "person p 75 did d 1;law grind 9 - lie;", 0, 0, 0, 7, 1, 1);
        crumbIs(four + "person p 75 did d 1;law grind 9 - lie;", 0, 3, 8, 0, 0, 1);
        crumbIs(four + "person p 75 did d 1;law grind worth * 999;", 0, 3, 8, 7, 1, 2);
        crumbIs(four + "person p 75 did d 1;law grind 5 / (worth - 5);", 0, 3, 8, 7, 1, 2);
        crumbThen();
        is("no sack", new ConfessionMill().crumb(0, 0), -1);
        ConfessionMill mill = used();
        for (int none : noneOf(2)) {
            is("crumb(" + none + ", 0)", mill.crumb(none, 0), -1);
        }
        for (int none : noneOf(4)) {
            is("crumb(0, " + none + ")", mill.crumb(0, none), -1);
        }
        Seen.unchanged("crumb", ThoughtEdgesTest::used, one -> one.crumb(1, 0), 1);
    }

    // "as all was then": by each name alone the two SINS differ now, but did not then, or the other way round
    private static void crumbThen() {
        for (String name : new String[] {"times", "worn", "2 - pride", "day"}) {
            // the second sin is as fine as the first as long as the name is 0
            ConfessionMill mill = Due.mill("sin a 5;sin b 6;person p 50 did a 1 did b 1;law want 0;law grind 5 + (worth - 5) * (" + name + ");");
            mill.confess(0, 0);
            is("then 0: " + name, mill.crumb(0, 0), 3);
            mill.days(1);
            mill.confess(0, 0);
            is("then above 0: " + name, mill.crumb(1, 1), 1);
            is("b isn't as fine: " + name, mill.crumb(1, 0), 0);
            is("as it was: " + name, mill.crumb(0, 0), 3);
        }
    }

    // ---- RUN, TRIED ----

    // "RUN (n 0 .. 100 less the DAY, FINE 0 .. 999): how much; NONE: no such ones."
    private static void run() {
        for (int day : new int[] {0, 1, 40, 99, 100}) {
            ConfessionMill mill = Due.mill("sin a 9;person p 1 did a 1;");
            mill.days(day);
            int there = day == 0 ? 0 : 5;
            is("run(0, 0) on " + day, mill.run(0, 0), there);
            is("run of all days on " + day, mill.run(100 - day, 0), 5);
            is("tried of all days on " + day, mill.tried(0, 0, 100 - day, 0), 5);
            for (int n : new int[] {101 - day, 102 - day, 101, -1, LEAST, MOST, MOST - day, LEAST + day}) {
                is("run(" + n + ", 0) on " + day, mill.run(n, 0), -1);
                is("tried(0, 0, " + n + ", 0) on " + day, mill.tried(0, 0, n, 0), -1);
            }
        }
        ConfessionMill mill = Due.mill("sin a 99;person p 1 did a 1;law grind worth * 99;");
        is("FINE 0", mill.run(1, 0), 5);
        is("FINE 999", mill.run(1, 999), 5);
        for (int none : noneOf(1000)) {
            is("run(1, " + none + ")", mill.run(1, none), -1);
            is("tried(0, 0, 1, " + none + ")", mill.tried(0, 0, 1, none), -1);
        }
        is("a new one", new ConfessionMill().run(100, 0), 0);
        Seen.unchanged("run", ThoughtEdgesTest::used, one -> one.run(9, 0), 8 + 3 * 5);
        Seen.unchanged("run of none", ThoughtEdgesTest::used, one -> one.run(101, 0), -1);
    }

    // "all flour with a FINE at least so much that there is then and was baked on"
    private static void flourOfRun() {
        String three = "sin a 10;person p 1 did a 3;cake c 10 7 1;law grind worth + day;";
        ConfessionMill mill = Due.mill(three);
        int[] all = {0, 5, 10, 15, 15};
        for (int n = 0; n < all.length; n++) {
            is("run(" + n + ", 10)", mill.run(n, 10), all[n]);
            is("run(" + n + ", 11)", mill.run(n, 11), Math.max(0, all[n] - 5));
            is("run(" + n + ", 12)", mill.run(n, 12), Math.max(0, all[n] - 10));
            is("run(" + n + ", 13)", mill.run(n, 13), 0);
        }
        mill.days(2);
        is("what was baked ahead of it is none of it", mill.run(0, 0), 3);
        is("what comes is", mill.run(1, 0), 8);
        mill = Due.mill("sin a 10;person p 1 did a 9;grain 8;");
        is("no more than the grain", mill.run(100, 0), 8);
        mill = Due.mill("sin a 10;person p 1 did a 9;grist 1;");
        for (int k = 0; k < 58; k++) {
            mill.fall(0, 0);
            mill.confess(0, 0);
        }
        is("up to 60 sacks", mill.run(1, 0), 59);
        is("not beyond", mill.run(9, 0), 60);
    }

    // "TRIED; NONE: no such ones (i 0 of 0, 3, 4)."
    private static void noTrials() {
        ConfessionMill mill = used();
        for (int none : noneOf(5)) {
            is("tried(" + none + ", 0, 1, 0)", mill.tried(none, 0, 1, 0), -1);
        }
        for (int what : new int[] {0, 3, 4}) {
            is("tried(" + what + ", 0)", mill.tried(what, 0, 0, 0), 8);
            for (int none : noneOf(1)) {
                is("tried(" + what + ", " + none + ")", mill.tried(what, none, 0, 0), -1);
            }
        }
        for (int what : new int[] {1, 2}) {
            is("tried(" + what + ", 0)", mill.tried(what, 0, 0, 0), 8);
            is("tried(" + what + ", 1)", mill.tried(what, 1, 0, 0), 8);
            for (int none : noneOf(2)) {
                is("tried(" + what + ", " + none + ")", mill.tried(what, none, 0, 0), -1);
            }
        }
        ConfessionMill bare = new ConfessionMill();
        int[] bareWant = {0, -1, -1, 0, 0};
        for (int what = 0; what < 5; what++) {
            is("nobody: tried(" + what + ")", bare.tried(what, 0, 1, 0), bareWant[what]);
            int trial = what;
            Seen.unchanged("tried(" + what + ")", ThoughtEdgesTest::used, one -> one.tried(trial, 0, 0, 0), 8);
        }
    }

    // "0 the stone isn't worn any more, 1 PERSON i is silent, 2 SIN i isn't confessed, 3 ... 4 ..."
    private static void trials() {
        String text = "sin a 0;sin b 5;sin c 5;person p 1 did a 1 did c 1;person q 2 did b 1;law grind worth * 10 + honest - worn;law wear 10;stone 2;";
        ConfessionMill mill = Due.mill(text);
        // by itself: c of p 49, b of q 40, and a has no worth
        is("by itself at 49", mill.run(9, 49), 5);
        is("by itself at 40", mill.run(9, 40), 10);
        is("by itself", mill.run(9, 0), 10);
        is("0: as worn as it is now, 50", mill.tried(0, 0, 9, 50), 5);
        is("0: and 49", mill.tried(0, 0, 9, 49), 10);
        mill.confess(1, 2);
        is("0: worn 12 now, b of q 40", mill.tried(0, 0, 9, 40), 10);
        is("0: and c of p 39, behind the lie of 50", mill.tried(0, 0, 9, 39), 15);
        mill.undo();
        is("1: p is silent, b of q 50", mill.tried(1, 0, 9, 50), 5);
        is("1: and no other", mill.tried(1, 0, 9, 0), 5);
        is("1: q is silent", mill.tried(1, 1, 9, 0), 5);
        is("2: no a", mill.tried(2, 0, 9, 0), 10);
        is("2: no b", mill.tried(2, 1, 9, 0), 5);
        is("2: no c, b of q 50", mill.tried(2, 2, 9, 50), 5);
        is("3: a first, worth 0", mill.tried(3, 0, 1, 1), 0);
        is("3: then c of p ahead of b of q, 39 and 30", mill.tried(3, 0, 2, 39), 5);
        is("3: all three", mill.tried(3, 0, 9, 0), 15);
        is("3: b of q 30", mill.tried(3, 0, 9, 30), 10);
        is("4: c of p ahead of b of q, 49", mill.tried(4, 0, 1, 49), 5);
        is("4: nothing of worth 0", mill.tried(4, 0, 9, 0), 10);
        for (String want : new String[] {"0", "0 - 1", "1 / 0", "9 - worth", "honest"}) {
            ConfessionMill other = Due.mill(text + "law want " + want + ";");
            is("3: want isn't asked", other.tried(3, 0, 9, 30), 10);
            is("4: want isn't asked", other.tried(4, 0, 9, 49), 5);
        }
        is("0: want is asked", Due.mill(text + "law want 0;").tried(0, 0, 9, 0), 0);
        is("1: want is asked", Due.mill(text + "law want honest = 1;").tried(1, 0, 9, 0), 0);
        is("2: want is asked", Due.mill(text + "law want worth = 5;").tried(2, 2, 9, 0), 5);
        is("3: WORTH 99", Due.mill("sin a 99;person p 1 did a 1;").tried(3, 0, 1, 99), 5);
        is("3: none left", Due.mill("sin a 99;person p 1;").tried(3, 0, 1, 0), 0);
        is("4: WORTH 1", Due.mill("sin a 1;person p 1 did a 1;").tried(4, 0, 1, 0), 5);
        is("3: no grain", Due.mill("grain 0;sin a 1;person p 1 did a 1;").tried(3, 0, 1, 0), 0);
        is("baked on the way", Due.mill("sin a 1;person p 1 did a 1;cake c 1 3 0;").tried(4, 0, 5, 1), 5);
    }

    // "of several the first by PEOPLE, SINS" of 3 and 4: told by who has confessed when grain is gone
    private static void firstOfSeveral() {
        String tie = "sin a 4;sin b 4;person p 7 did b 1;person q 9 did a 1;grain 5;";
        for (int what = 3; what <= 4; what++) {
            ConfessionMill mill = Due.mill(tie + "law grind honest;");
            is(what + ": p first", mill.tried(what, 0, 9, 8), 0);
            is(what + ": it is 7", mill.tried(what, 0, 9, 7), 5);
            mill = Due.mill("sin a 4;sin b 4;person p 7 did b 1 did a 2;grain 10;law grind pride;law wear 0;");
            is(what + ": pride 3 at first", mill.tried(what, 0, 9, 3), 5);
        }
    }

    // ---- TWO MILLS ----

    // "(n 1 .. 10) ... NONE: no such ones, a SIN that there isn't"
    private static void mills() {
        String[] sins = {"sin a 8;", "sin b 7;", "sin c 6;", "sin d 5;"};
        StringBuilder text = new StringBuilder();
        for (int size = 0; size <= 4; size++) {
            ConfessionMill mill = Due.mill(text.toString());
            for (int sin = 0; sin < 4; sin++) {
                is("one of " + size, mill.mills(1, sin, 0), sin < size ? 8 - sin : -1);
                is("the last of ten of " + size, mill.mills(10, sin << 18, 1), size == 0 || sin >= size ? -1 : sin == 0 ? 31 : tenWith(sin));
                is("behind the last of nine of " + size, mill.mills(9, sin << 18, 0), size == 0 ? -1 : 40);
            }
            for (int n : noneOf(11)) {
                is("mills(" + n + ", 0, 0)", mill.mills(n, 0, 0), -1);
            }
            is("mills(0, 0, 0)", mill.mills(0, 0, 0), -1);
            for (int what : noneOf(2)) {
                is("mills(1, 0, " + what + ")", mill.mills(1, 0, what), -1);
            }
            text.append(size < 4 ? sins[size] : "");
        }
        ConfessionMill four = Due.mill(text.toString());
        is("all bits: ten of d", four.mills(10, -1, 0), 25);
        is("ten of d: the first five", four.mills(10, -1, 1), 31);
        is("the greatest number: d and so on", four.mills(10, MOST, 0), 25);
        is("bits above all are none of the row", four.mills(1, LEAST, 0), 8);
        for (int row : new int[] {LEAST, 1 << 30, -4, 4, -1 << 20, 1 << 20}) {
            is("nor where there is one sin, " + row, Due.mill("sin a 8;").mills(1, row, 0), 8);
            is("which of it, " + row, Due.mill("sin a 8;").mills(1, row, 1), 0);
        }
        is("the tenth is of the row", Due.mill("sin a 8;").mills(10, 1 << 18, 0), -1);
        is("behind the tenth is not", Due.mill("sin a 8;").mills(10, 1 << 20, 0), 40);
        Seen.unchanged("mills", ThoughtEdgesTest::used, one -> one.mills(3, 4, 0), 20);
    }

    // nine of 8 and a last one of less: five of 8 against four and that, so the first four and the last for the second
    private static int tenWith(int sin) {
        int best = 0;
        int least = MOST;
        for (int bits = 0; bits < 1024; bits++) {
            int second = Integer.bitCount(bits & 511) * 8 + (bits >> 9) * (8 - sin);
            int greater = Math.max(second, 80 - sin - second);
            if (greater < least) {
                least = greater;
                best = bits;
            }
        }
        return best;
    }

    // "the greater of both sums the least; of several the first by the least bits of those for the second one"
    private static void leastBits() {
        ConfessionMill mill = Due.mill("sin a 0;sin b 1;sin c 2;sin d 3;");
        is("one: none for the second", mill.mills(1, 3, 1), 0);
        is("its sum", mill.mills(1, 3, 0), 3);
        is("two the same: the first for the second", mill.mills(2, 15, 1), 1);
        is("c b a: c alone or with a", mill.mills(3, 2 | 1 << 2, 1), 1);
        is("b c: b or c", mill.mills(2, 1 | 2 << 2, 1), 1);
        is("b c d: b and c, not d", mill.mills(3, 1 | 2 << 2 | 3 << 4, 1), 3);
        is("d b c: d", mill.mills(3, 3 | 1 << 2 | 2 << 4, 1), 1);
        is("nothing worth: none", mill.mills(10, 0, 1), 0);
        is("nothing worth: 0", mill.mills(10, 0, 0), 0);
    }

    // ---- PAIRED ----

    // "(one may be left, if they are odd)"; "(Long.MIN_VALUE: no PEOPLE)"; "-2: left; NONE: no such one"
    private static void paired() {
        String[] people = {"person a 1;", "person b 2;", "person c 4;", "person d 8;", "person e 16;"};
        StringBuilder text = new StringBuilder();
        int[][] told = {{}, {-2}, {1, 0}, {1, 0, -2}, {1, 0, 3, 2}, {1, 0, 3, 2, -2}};
        int[][] honest = {{}, {-2}, {1, 0}, {2, -2, 0}, {2, 3, 0, 1}, {3, 4, -2, 0, 1}};
        long[] sums = {ERROR, 0, 2, 4, 12, 24};
        long[] low = {ERROR, 0, -2, -2, -10, -10};
        for (int size = 0; size <= 5; size++) {
            pairedIs("without a law", Due.mill(text.toString()), size == 0 ? ERROR : 0, told[size]);
            pairedIs("with an ERROR", Due.mill(text + "law pair 1 / 0;"), size == 0 ? ERROR : 0, told[size]);
            pairedIs("of equal sums", Due.mill(text + "law pair 9;"), size == 0 ? ERROR : 9 * (size / 2), told[size]);
            pairedIs("of equal sums below 0", Due.mill(text + "law pair 0 - 9;"), size == 0 ? ERROR : -9 * (size / 2), told[size]);
            pairedIs("the greatest", Due.mill(text + "law pair honest;"), sums[size], honest[size]);
            ConfessionMill below = Due.mill(text + "law pair 0 - honest;");
            is("the greatest below 0", below.pairs(), low[size]);
            is("and asked again", below.pairs(), low[size]);
            text.append(size < 5 ? people[size] : "");
        }
        Seen.unchanged("pairs", ThoughtEdgesTest::used, ConfessionMill::pairs, 27 - 47);
        Seen.unchanged("paired", ThoughtEdgesTest::used, one -> one.paired(1), 0);
    }

    private static void pairedIs(String what, ConfessionMill mill, long sum, int... partners) {
        is(what + ", " + partners.length + ": sum", mill.pairs(), sum);
        for (int k = 0; k < partners.length; k++) {
            is(what + ", " + partners.length + ": partner of " + k, mill.paired(k), partners[k]);
        }
        for (int none : noneOf(partners.length)) {
            is(what + ", " + partners.length + ": partner of " + none, mill.paired(none), -1);
        }
    }

    // "of several by numbers the least partner (the one who is left: behind all)"; "(0 with an ERROR ...)"
    private static void leastPartner() {
        String five = "person a 1;person b 2;person c 3;person d 4;person e 5;";
        pairedIs("an ERROR is 0, which is above -1", Due.mill("person a 1;person b 2;person c 3;law pair 0 - 1 / (3 - honest);"), 0, 2, -2, 0);
        pairedIs("only with e", Due.mill(five + "law pair honest = 5;"), 1, 1, 0, 4, -2, 2);
        pairedIs("the first is left", Due.mill("sin s 1;person a 1;person b 1 did s 1;person c 1;law pair pride;"), 1, -2, 2, 1);
        pairedIs("the second is left", Due.mill("sin s 1;person a 1 did s 1;person b 1;person c 2;law pair pride * honest;"), 2, 2, -2, 0);
        pairedIs("the first of five is left", Due.mill("sin s 1;person a 1;person b 1 did s 9;person c 1;person d 1 did s 9;person e 1;"
            + "law pair pride - times * 9;"), 18, -2, 2, 1, 4, 3);
        // far values: two of 10 to the 12 are no ERROR in sum
        String far = "law pair 9999 * 9999 * 9999 + 9999 * 9999 * 3 + 9999 * 3 + 1;";
        pairedIs("two far ones", Due.mill("person a 1;person b 2;person c 3;person d 4;" + far), 2000000000000L, 1, 0, 3, 2);
    }

    // "worth: all WORTH LEFT of the first one in sum, times: that of the other one; pride: of the first; honest: of the other one; lie 0"
    private static void namesOfPair() {
        String text = "sin a 1;sin b 10;sin c 20;sin d 30;person p 5 did a 2 did d 1;person q 7 did b 3 did c 1;person r 9;stone 4;";
        String[] names = {"worth", "times", "worn", "pride", "lie", "honest", "day"};
        long[][] want = {{32, 50, 4, 3, 0, 7, 0}, {32, 0, 4, 3, 0, 9, 0}, {50, 0, 4, 4, 0, 9, 0}};
        int[][] of = {{0, 1}, {0, 2}, {1, 2}};
        for (int k = 0; k < names.length; k++) {
            ConfessionMill mill = Due.mill(text + "law want 0;law pair " + names[k] + ";");
            for (int j = 0; j < of.length; j++) {
                is(names[k] + " of " + of[j][0] + " and " + of[j][1], mill.law(3, of[j][0], of[j][1]), want[j][k]);
            }
            mill.confess(0, 3);
            mill.confess(2, 3);
            mill.fall(1, 0);
            mill.days(6);
            long[] later = {2, 51, 6, 2, 0, 7, 6};
            is(names[k] + " later", mill.law(3, 0, 1), later[k]);
        }
    }

    // ---- lies ----

    // "How many of n (1 .. 40) ASKED as it is now (nothing changes by it; numbers from a seed 0 .. 2147483647 on) are lies; NONE: no such ones."
    private static void lies() {
        ConfessionMill mill = Due.mill("seed 9;sin a 1;sin b 1;person p 39 did a 1;person q 0;"
            + "person r 100 did a 1 did b 1;person s 0 did a 1 did b 1;");
        for (int n : new int[] {1, 2, 39, 40}) {
            is("all of " + n, mill.lies(0, 1, n), n);
            is("none of " + n, mill.lies(0, 2, n), 0);
            is("nothing could be invented of " + n, mill.lies(0, 3, n), 0);
            for (int seed : new int[] {0, 1, 12345, 2147483646, 2147483647}) {
                is("of " + n + " from " + seed, mill.lies(seed, 0, n), liesFrom(seed, 39, n));
            }
        }
        for (int n : new int[] {0, 41, -1, LEAST, MOST}) {
            is("lies of " + n, mill.lies(1, 0, n), -1);
        }
        for (int seed : new int[] {-1, -2, LEAST}) {
            is("lies from " + seed, mill.lies(seed, 0, 1), -1);
        }
        for (int none : noneOf(4)) {
            is("lies of person " + none, mill.lies(1, none, 1), -1);
        }
        is("nobody", new ConfessionMill().lies(0, 0, 1), -1);
        is("no sins", Due.mill("person p 50;").lies(0, 0, 40), 0);
        Supplier<ConfessionMill> alone = () -> Due.mill("seed 9;sin a 1;sin b 1;person p 39 did a 1;");
        Seen.unchanged("lies", alone, one -> one.lies(5, 0, 40), liesFrom(5, 39, 40));
        Seen.unchanged("lies of none", alone, one -> one.lies(-1, 0, 40), -1);
    }

    /** One of two SINS is left: a lie takes two numbers, a truth one. */
    private static int liesFrom(long seed, int honest, int n) {
        long last = seed;
        int lies = 0;
        for (int k = 0; k < n; k++) {
            last = (last * 1103515245L + 12345L) % 2147483648L;
            if (last / 65536 % 100 >= honest) {
                lies++;
                last = (last * 1103515245L + 12345L) % 2147483648L;
            }
        }
        return lies;
    }

    // ---- KNOWN, FITS ----

    // "KNOWN by n from now on (-1: by all, also those to come): true; false: no such n."
    private static void known() {
        for (int size : new int[] {0, 1, 59, 60}) {
            Supplier<ConfessionMill> made = () -> {
                ConfessionMill mill = Due.mill("sin a 5;person p 1;grist 1;may m worth;");
                for (int k = 0; k < size; k++) {
                    mill.confess(0, 0);
                }
                return mill;
            };
            ConfessionMill mill = made.get();
            is("by all at first", mill.count(7), -1);
            for (int n : new int[] {size, 0, size / 2, -1}) {
                is("known(" + n + ") of " + size, mill.known(n), true);
                is("by " + n, mill.count(7), n);
            }
            for (int n : new int[] {size + 1, size + 2, 61, -2, LEAST, MOST}) {
                Seen.unchanged("known(" + n + ") of " + size, made, one -> one.known(n) ? 1 : 0, 0);
            }
            mill.known(size);
            is("false", mill.known(size + 1), false);
            is("stays", mill.count(7), size);
        }
    }

    // "FITS: MAY (bits; the bit behind all: the law as told) by which all KNOWN SACKS have their FINE (E as it was then)"
    private static void fits() {
        String mays = "";
        String[] parts = {"may a worth;", "may b worth + times;", "may c 1 / 0;"};
        for (int size = 0; size <= 3; size++) {
            ConfessionMill mill = Due.mill("sin a 5;person p 1;law grind worth + times;" + mays);
            is("no sacks, " + size, mill.fits(), (1 << size + 1) - 1);
            mill.confess(0, 0);
            is("one sack, " + size, mill.fits(), (1 << size + 1) - 1);
            mill.confess(0, 0);
            int[] want = {1, 2, 6, 10};
            is("two sacks, " + size, mill.fits(), want[size]);
            mill.known(1);
            is("known by one, " + size, mill.fits(), (1 << size + 1) - 1);
            mill.known(2);
            is("known by two, " + size, mill.fits(), want[size]);
            mill.known(0);
            is("known by none, " + size, mill.fits(), (1 << size + 1) - 1);
            mill.known(-1);
            is("known by all, " + size, mill.fits(), want[size]);
            mays += size < 3 ? parts[size] : "";
        }
        ConfessionMill mill = Due.mill("sin a 99;sin b 0;person p 1;law grind worth * 99;may a worth * 9999;may b 999 * (worth > 1);may c worth * 99 - 1;");
        mill.confess(0, 0);
        is("beyond 999 is 999", mill.fits(), 8 + 4 + 2 + 1);
        mill.confess(0, 1);
        is("below 0 is 0", mill.fits(), 8 + 4 + 2 + 1);
        toCome();
        eachSack();
        Seen.unchanged("fits", ThoughtEdgesTest::used, ConfessionMill::fits, 3);
    }

    private static void eachSack() {
        for (int odd = 0; odd < 3; odd++) {
            ConfessionMill mill = Due.mill("sin a 5;person p 1;law want 0;law grind 5;may a 5 + (times = " + odd + ");may b 5 + (day = " + odd + ");may c 5 + (worn = " + odd + ");");
            for (int k = 0; k < 3; k++) {
                mill.confess(0, 0);
                mill.days(1);
                is("other by sack " + odd + " alone, at " + k, mill.fits(), k >= odd ? 8 : 15);
            }
            for (int n = 0; n <= 3; n++) {
                mill.known(n);
                is("other by sack " + odd + " alone, known by " + n, mill.fits(), n > odd ? 8 : 15);
            }
        }
        ConfessionMill mill = Due.mill("sin a 5;sin b 5;person p 1 did a 1;law grind 5;may a 5 + lie;may b 5 + pride;may c 4 + honest;");
        mill.confess(0, 0);
        is("lie and pride as they were", mill.fits(), 8 + 4 + 1);
        mill.confess(0, 0);
        is("and then", mill.fits(), 8 + 4);
        mill.known(0);
        is("by none", mill.fits(), 15);
    }

    private static void toCome() {
        ConfessionMill mill = Due.mill("sin a 5;person p 1;law grind worth + times;may a worth;");
        mill.confess(0, 0);
        mill.known(1);
        mill.confess(0, 0);
        is("by one: not by those to come", mill.fits(), 3);
        mill.known(-1);
        is("by all", mill.fits(), 2);
        mill.undo();
        is("by all there are", mill.fits(), 3);
        mill.confess(0, 0);
        is("by all, also those to come", mill.fits(), 2);
    }

    public static void main(String[] args) {
        upToFour();
        needsOfPlan();
        bestOfPlans();
        howPlansGo();
        plansNow();
        planOfEach();
        noPlans();
        crumb();
        run();
        flourOfRun();
        noTrials();
        trials();
        firstOfSeveral();
        mills();
        leastBits();
        paired();
        leastPartner();
        namesOfPair();
        lies();
        known();
        fits();
        Due.end("ThoughtEdgesTest");
    }
}
