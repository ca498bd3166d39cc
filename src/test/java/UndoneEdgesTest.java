import java.util.function.Consumer;
import java.util.function.Supplier;

/** Every bound that the document names of what can be undone, of an IMAGE and of what is counted (Terms 4, promises 29 to 32). */
public final class UndoneEdgesTest {
    private static final int LEAST = Integer.MIN_VALUE;
    private static final int MOST = Integer.MAX_VALUE;
    private static final String TEXT = "seed 1;sin a 7;sin b 20;person p 30 did a 2;person q 60 did a 1 did b 3;"
        + "cake c 7 8 3;cake d 0 3 9;stone 2;law grind worth + times;law wear 1 + lie * 3;may m worth;";

    private static void is(String call, long got, long want) {
        Due.due(call, got, want);
    }

    private static ConfessionMill begun() {
        ConfessionMill mill = Due.mill(TEXT);
        mill.confess(1, 1);
        mill.days(1);
        mill.confess(1, 0);
        return mill;
    }

    /** One step is undone: all is as if it had never been, also what is still to be undone. */
    private static void undone(String what, Consumer<ConfessionMill> step) {
        ConfessionMill mill = begun();
        step.accept(mill);
        is(what + ": two", mill.count(8), 2);
        is(what + ": undo()", mill.undo(), 1);
        Seen.sameFromNowOn(what + " undone", mill, begun());
    }

    // "What was confessed, FALLS, CAKES baked by call can be undone, the latest first"
    private static void whatCanBe() {
        undone("a truth", mill -> mill.confess(0, 0));
        undone("a lie", mill -> mill.confess(0, 1));
        undone("a fall", mill -> mill.fall(0, 1));
        undone("a fall of one left", mill -> mill.fall(1, 1));
        undone("a cake", mill -> mill.bake(1));
        undone("a cake of two sacks", mill -> mill.bake(0));
        ConfessionMill mill = Due.mill(TEXT);
        is("nothing at first", mill.undo(), -1);
        is("nothing of a new one", new ConfessionMill().undo(), -1);
        mill.confess(1, 1);
        mill.fall(0, 1);
        mill.bake(1);
        is("the cake first", mill.undo(), 2);
        is("it isn't baked", mill.baked(1), -2);
        is("the fall is there", Due.look(mill, 0, 4), 1);
        is("then the fall", mill.undo(), 1);
        is("it is gone", Due.look(mill, 0, 4), 0);
        is("the sack is there", mill.count(6), 1);
        is("then the sack", mill.undo(), 0);
        is("it is gone, too", mill.count(6), 0);
        is("nothing more", mill.undo(), -1);
        Seen.sameFromNowOn("all undone", mill, Due.mill(TEXT));
    }

    // Every FALL is undone of the PERSON and the SIN that it was of
    private static void eachFall() {
        String text = "sin a 1;sin b 1;sin c 1;sin d 1;person p 1;person q 1;person r 1;person s 1;person t 1;";
        ConfessionMill mill = Due.mill(text);
        for (int slot = 0; slot < 20; slot++) {
            mill.fall(slot / 4, slot % 4);
        }
        for (int slot = 19; slot >= 0; slot--) {
            is("undo to " + slot, mill.undo(), slot);
            for (int other = 0; other < 20; other++) {
                is("left of " + other + " at " + slot, mill.did(other / 4, other % 4, 1), other < slot ? 1 : 0);
            }
            is("falls of its person", Due.look(mill, slot / 4, 4), slot % 4);
        }
    }

    // Every CAKE is undone of the flour that it took, also if it is baked anew of other SACKS
    private static void eachCake() {
        String text = "sin a 5;sin b 4;person p 1;cake c 4 3 9;cake d 5 4 9;cake e 4 6 9;cake f 4 1 9;cake g 4 1 9;";
        ConfessionMill mill = Due.mill(text);
        mill.confess(0, 0);
        mill.confess(0, 0);
        mill.confess(0, 1);
        int[][] held = {{5, 5, 5}, {5, 5, 2}, {1, 5, 2}, {0, 2, 0}, {0, 1, 0}, {0, 0, 0}};
        for (int cake = 0; cake < 5; cake++) {
            is("bake " + cake, mill.bake(cake) ? 1 : 0, 1);
            heldIs("baked " + cake, mill, held[cake + 1]);
        }
        for (int cake = 4; cake >= 0; cake--) {
            mill.undo();
            heldIs("undone " + cake, mill, held[cake]);
            is("not baked " + cake, mill.baked(cake), -2);
        }
        mill.bake(2);
        heldIs("the third, first of all", mill, 4, 5, 0);
        mill.bake(0);
        heldIs("then the first", mill, 1, 5, 0);
        mill.undo();
        heldIs("which is undone", mill, 4, 5, 0);
        mill.undo();
        heldIs("and the other", mill, 5, 5, 5);
        mill = Due.mill(text);
        mill.confess(0, 0);
        mill.bake(3);
        heldIs("of the only sack", mill, 4);
        mill.undo();
        mill.confess(0, 1);
        mill.bake(3);
        heldIs("anew, of the coarser one", mill, 5, 4);
        mill.undo();
        heldIs("and undone", mill, 5, 5);
    }

    private static void heldIs(String what, ConfessionMill mill, int... held) {
        for (int k = 0; k < held.length; k++) {
            is(what + ": sack " + k, mill.sack(k, 3), held[k]);
        }
    }

    // "how many are left; NONE: none": NONE changes nothing
    private static void noneIsUndone() {
        Supplier<ConfessionMill> made = () -> {
            ConfessionMill mill = Due.mill(TEXT);
            mill.confess(1, 1);
            mill.days(1);
            mill.keep();
            return mill;
        };
        Seen.unchanged("undo() of none", made, ConfessionMill::undo, -1);
    }

    // "(20 at most)"
    private static void twenty() {
        for (int size = 18; size <= 23; size++) {
            ConfessionMill falls = Due.mill(TEXT);
            ConfessionMill sacks = Due.mill(TEXT + "grain 9999;");
            for (int k = 1; k <= size; k++) {
                falls.fall(0, 0);
                is("falls to undo", falls.count(8), Math.min(20, k));
                sacks.confess(0, 0);
                is("sacks to undo", sacks.count(8), Math.min(20, k));
            }
            for (int k = Math.min(20, size) - 1; k >= 0; k--) {
                is("undo of " + size, falls.undo(), k);
                is("undo of " + size + " sacks", sacks.undo(), k);
            }
            is("none of " + size, falls.undo(), -1);
            is("none of " + size + " sacks", sacks.undo(), -1);
            is("those beyond stay of " + size, Due.look(falls, 0, 4), Math.max(0, size - 20));
            is("sacks beyond stay of " + size, sacks.count(6), Math.max(0, size - 20));
        }
        ConfessionMill mill = Due.mill(TEXT);
        mill.fall(1, 0);
        for (int k = 0; k < 20; k++) {
            mill.fall(0, k % 2);
        }
        mill.undo();
        is("room for one", mill.fall(0, 0), 20);
        is("twenty again", mill.count(8), 20);
        for (int k = 0; k < 20; k++) {
            mill.undo();
        }
        is("the oldest can't be undone", Due.look(mill, 1, 4), 1);
        is("all others are", Due.look(mill, 0, 4), 0);
    }

    /** Three to undo, then a step: how many are left to undo. */
    private static void leftBehind(String what, int want, Consumer<ConfessionMill> step) {
        ConfessionMill mill = Due.mill(TEXT);
        mill.fall(0, 0);
        mill.confess(0, 0);
        mill.fall(0, 1);
        step.accept(mill);
        is("to undo behind " + what, mill.count(8), want);
        is("undo behind " + what, mill.undo(), want == 0 ? -1 : want - 1);
    }

    // "if no DAY went by since"; calls that are refused leave what can be undone
    private static void sinceADay() {
        leftBehind("days(1)", 0, mill -> mill.days(1));
        leftBehind("days(100)", 0, mill -> mill.days(100));
        leftBehind("days(0)", 3, mill -> mill.days(0));
        leftBehind("days(-1)", 3, mill -> mill.days(-1));
        leftBehind("days(101)", 3, mill -> mill.days(101));
        leftBehind("keep()", 3, ConfessionMill::keep);
        leftBehind("back() without an image", 3, ConfessionMill::back);
        leftBehind("keep() and back()", 0, mill -> {
            mill.keep();
            mill.back();
        });
        leftBehind("a text", 0, mill -> Due.tell(mill, TEXT));
        leftBehind("text(0)", 0, mill -> mill.text(0));
        leftBehind("a text with a fault", 3, mill -> Due.tell(mill, "sin"));
        leftBehind("text(-1)", 3, mill -> mill.text(-1));
        leftBehind("known(0)", 3, mill -> mill.known(0));
        leftBehind("run(100, 0)", 3, mill -> mill.run(100, 0));
        leftBehind("lies(1, 0, 40)", 3, mill -> mill.lies(1, 0, 40));
        leftBehind("plan(0, 0)", 3, mill -> mill.plan(0, 0));
        leftBehind("what is refused", 3, mill -> {
            mill.confess(2, 0);
            mill.confess(0, 2);
            mill.fall(-1, 0);
            mill.ask(9);
            mill.bake(0);
            mill.bake(5);
        });
        leftBehind("what is baked", 4, mill -> mill.bake(1));
        ConfessionMill mill = Due.mill(TEXT);
        mill.fall(0, 0);
        mill.days(1);
        mill.fall(0, 0);
        is("since the day", mill.undo(), 0);
        is("not ahead of it", mill.undo(), -1);
        is("one fall stays", Due.look(mill, 0, 4), 1);
        is("of the day by itself nothing", mill.count(6), 1);
    }

    // "(what was drawn stays drawn)": seed 1 gives 38, 58, 10113, 15 and so on
    private static void drawnStays() {
        ConfessionMill mill = Due.mill("seed 1;sin a 1;sin b 1;person p 39 did a 1;");
        mill.ask(0);
        is("38 is honest", mill.sack(0, 4), 0);
        mill.undo();
        is("all but that is as it was", mill.count(6) + Due.look(mill, 0, 1), 0);
        mill.ask(0);
        is("58 is not", mill.sack(0, 4), 1);
        mill.undo();
        mill.ask(0);
        is("15 is again, behind two", mill.sack(0, 4), 0);
    }

    // KNOWN is no step that is undone, and stays by so many
    private static void knownStays() {
        ConfessionMill mill = Due.mill("sin a 5;person p 1;law grind worth + times;may a worth;");
        mill.confess(0, 0);
        mill.confess(0, 0);
        mill.known(2);
        mill.undo();
        is("by two", mill.count(7), 2);
        is("of one sack", mill.fits(), 3);
        mill.confess(0, 0);
        is("of two sacks", mill.fits(), 2);
        mill.confess(0, 0);
        is("by two still", mill.count(7), 2);
    }

    private static ConfessionMill kept() {
        ConfessionMill mill = Due.mill(TEXT);
        mill.confess(1, 1);
        mill.confess(0, 1);
        mill.bake(1);
        mill.fall(0, 0);
        mill.known(1);
        mill.days(2);
        mill.ask(0);
        return mill;
    }

    /** All is as in the image behind any step, as often as one goes back. */
    private static void backFrom(String what, Consumer<ConfessionMill> step) {
        ConfessionMill mill = kept();
        is("keep() ahead of " + what, mill.keep(), 2);
        ConfessionMill twin = kept();
        twin.keep();
        twin.back();
        for (int k = 0; k < 2; k++) {
            step.accept(mill);
            is("back() behind " + what, mill.back(), 2);
            is("nothing to undo behind " + what, mill.undo(), -1);
        }
        Seen.sameFromNowOn("back behind " + what, mill, twin);
    }

    // "An IMAGE keeps all."; "All is as in the IMAGE (nothing to undo then): which DAY it is; NONE: there is none."
    private static void images() {
        is("none of a new one", new ConfessionMill().back(), -1);
        Seen.unchanged("back() of none", UndoneEdgesTest::kept, ConfessionMill::back, -1);
        backFrom("nothing", mill -> { });
        backFrom("a truth", mill -> mill.confess(1, 1));
        backFrom("a lie", mill -> mill.confess(0, 1));
        backFrom("one asked", mill -> mill.ask(1));
        backFrom("a fall", mill -> mill.fall(0, 0));
        backFrom("a cake", mill -> mill.bake(0));
        backFrom("what is undone", ConfessionMill::undo);
        backFrom("days", mill -> mill.days(98));
        backFrom("known", mill -> mill.known(0));
        backFrom("a fault", mill -> Due.tell(mill, "sin"));
        backFrom("all of that", mill -> {
            mill.ask(0);
            mill.fall(1, 0);
            mill.days(7);
            mill.known(3);
            mill.ask(1);
        });
    }

    // An IMAGE keeps SACKS that others took the place of since
    private static void otherSacks() {
        Supplier<ConfessionMill> made = () -> {
            ConfessionMill mill = Due.mill("sin a 5;sin b 6;person p 40 did a 2;person q 70 did b 1;grain 13;law want 0;law wear worth;"
                + "law grind worth + times * 7 + worn * 3 + pride * 11 + lie * 50 + day * 100;may m worth + worn * 3 + lie * 50 + pride * 11;"
                + "may n worth + times * 7 + worn * 3 + pride * 11 + lie * 50;");
            mill.confess(0, 0);
            mill.confess(0, 0);
            mill.confess(1, 1);
            mill.keep();
            return mill;
        };
        ConfessionMill mill = made.get();
        for (int k = 0; k < 3; k++) {
            mill.undo();
        }
        mill.days(1);
        mill.fall(0, 1);
        mill.confess(1, 0);
        mill.confess(0, 1);
        mill.confess(1, 0);
        is("back", mill.back(), 0);
        ConfessionMill twin = made.get();
        twin.back();
        Seen.sameFromNowOn("behind others in their place", mill, twin);
    }

    // "An IMAGE is kept (in place of one ahead): which DAY it is."; text: "no IMAGE"
    private static void keep() {
        ConfessionMill mill = new ConfessionMill();
        is("keep() of a new one", mill.keep(), 0);
        is("back()", mill.back(), 0);
        mill.days(100);
        is("keep() on day 100", mill.keep(), 100);
        is("back() on day 100", mill.back(), 100);
        mill = Due.mill(TEXT);
        mill.keep();
        mill.days(3);
        is("in place of that", mill.keep(), 3);
        mill.days(5);
        is("not the one ahead", mill.back(), 3);
        is("nor by going back again", mill.back(), 3);
        Due.tell(mill, "sin");
        is("a fault leaves it", mill.back(), 3);
        mill.text(-1);
        is("-2 leaves it", mill.back(), 3);
        Due.tell(mill, TEXT);
        is("a text leaves none", mill.back(), -1);
        Seen.unchanged("keep() but for back()", () -> {
            ConfessionMill one = kept();
            one.keep();
            return one;
        }, ConfessionMill::keep, 2);
    }

    private static void counts(String what, ConfessionMill mill, int... want) {
        for (int k = 0; k < want.length; k++) {
            is("count(" + k + ") " + what, mill.count(k), want[k]);
        }
        for (int none : new int[] {-1, 12, 13, LEAST, MOST, 1 << 16}) {
            is("count(" + none + ") " + what, mill.count(none), -1);
        }
    }

    // "0 SINS .. 11 all flour now. NONE for another what.", empty and full
    private static void count() {
        counts("of a new one", new ConfessionMill(), 0, 0, 0, 0, 0, 0, 0, -1, 0, 100, 0, 0);
        String full = "sin a 1;sin b 1;sin c 1;sin d 1;person a 1;person b 1;person c 1;person d 1;person e 1;"
            + "cake a 0 99 99;cake b 1 1 1;cake c 1 1 1;cake d 1 1 1;cake e 1 1 1;may a 1;may b 1;may c 1;"
            + "grain 9999;grist 99;stone 999;law wear 99" + "+0".repeat(30) + ";";
        ConfessionMill mill = Due.mill(full);
        counts("of a full text", mill, 4, 5, 5, 3, 64, 0, 0, -1, 0, 9999, 999, 0);
        for (int k = 0; k < 60; k++) {
            mill.confess(k % 5, k % 4);
        }
        mill.known(60);
        counts("of 60 sacks", mill, 4, 5, 5, 3, 64, 0, 60, 60, 20, 9999 - 5940, 999 + 5940, 5940);
        mill.bake(0);
        counts("of a cake", mill, 4, 5, 5, 3, 64, 0, 60, 60, 20, 9999 - 5940, 999 + 5940, 5841);
        mill.days(100);
        counts("on day 100", mill, 4, 5, 5, 3, 64, 100, 60, 60, 0, 9999 - 5940, 999 + 5940, 5841 - 4);
        Seen.unchanged("count", UndoneEdgesTest::kept, one -> one.count(12), -1);
        mill = Due.mill("sin a 0;person p 1;");
        mill.confess(0, 0);
        is("all flour, also of FINE 0", mill.count(11), 5);
    }

    public static void main(String[] args) {
        whatCanBe();
        eachFall();
        eachCake();
        noneIsUndone();
        twenty();
        sinceADay();
        drawnStays();
        knownStays();
        images();
        otherSacks();
        keep();
        count();
        Due.end("UndoneEdgesTest");
    }
}
