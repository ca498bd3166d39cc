/** Promises 29 to 32: undo, keep, back, count. */
public final class UndoneTest {
    private static final String TWO = "sin a 7;sin b 20;person p 30 did a 2;person q 60 did a 1 did b 3;cake c 7 8 3;stone 2;";

    private static void is(String call, long got, long want) {
        Due.due(call, got, want);
    }

    private static void undo() {
        ConfessionMill mill = Due.mill(TWO);
        is("nothing", mill.undo(), -1);
        mill.confess(1, 1);
        mill.confess(0, 1);
        mill.fall(1, 0);
        mill.bake(0);
        is("four", mill.count(8), 4);
        is("the cake", mill.undo(), 3);
        is("isn't baked", mill.baked(0), -2);
        is("its flour", mill.sack(0, 3) * 10 + mill.sack(1, 3), 55);
        is("the fall", mill.undo(), 2);
        is("falls", Due.look(mill, 1, 4), 0);
        is("done", mill.did(1, 0, 0) * 10 + mill.did(1, 0, 1), 11);
        is("the lie", mill.undo(), 1);
        is("lies", Due.look(mill, 0, 1) * 10 + Due.look(mill, 0, 2), 0);
        is("nothing more is left by it", mill.did(0, 1, 1), 0);
        is("sacks", mill.count(6), 1);
        is("grain", mill.count(9), 95);
        is("worn", mill.count(10), 3);
        is("the truth", mill.undo(), 0);
        is("is left", mill.did(1, 1, 1), 3);
        is("all grain", mill.count(9), 100);
        is("as worn as at first", mill.count(10), 2);
        is("no sacks", mill.sack(0, 0), -1);
        is("nothing more", mill.undo(), -1);

        for (int k = 0; k < 25; k++) {
            mill.fall(0, 1);
        }
        is("20 at most", mill.count(8), 20);
        for (int k = 19; k >= 0; k--) {
            is("undo to " + k, mill.undo(), k);
        }
        is("five stay", Due.look(mill, 0, 4), 5);
        is("none", mill.undo(), -1);
        mill.fall(0, 1);
        mill.days(1);
        is("a day went by", mill.undo(), -1);
        is("it stays", Due.look(mill, 0, 4), 6);
    }

    private static void refused() {
        ConfessionMill mill = Due.mill(TWO + "grain 5;");
        mill.confess(0, 0);
        mill.confess(0, 0);
        mill.confess(9, 0);
        mill.fall(0, 9);
        mill.ask(1);
        mill.bake(0);
        is("what didn't happen can't be undone", mill.count(8), 1);
        mill = Due.mill(TWO + "grain 7;");
        mill.confess(0, 0);
        mill.confess(0, 0);
        mill.undo();
        is("what was left of the grain comes again", mill.count(9), 2);
        mill = Due.mill(TWO + "cake d 0 5 9;");
        mill.confess(1, 1);
        mill.confess(1, 1);
        mill.bake(0);
        mill.undo();
        mill.bake(1);
        is("another cake behind an undone one", mill.count(11), 5);
        mill.undo();
        is("and undone", mill.count(11), 10);
        mill.known(2);
        mill.undo();
        is("known stays by two", mill.count(7), 2);
        is("of one", mill.fits(), 1);
    }

    private static void images() {
        ConfessionMill mill = Due.mill(TWO + "seed 1;cake d 0 2 50;");
        is("none", mill.back(), -1);
        mill.confess(1, 1);
        mill.fall(0, 1);
        mill.bake(1);
        mill.known(1);
        mill.days(2);
        mill.confess(0, 0);
        is("keep", mill.keep(), 2);
        is("undo stays", mill.count(8), 1);
        int sacks = mill.count(6);
        int drawn = mill.ask(1);
        int sin = mill.sack(drawn, 1);
        mill.fall(1, 1);
        mill.known(0);
        mill.bake(0);
        mill.days(5);
        is("back", mill.back(), 2);
        is("day", mill.count(5), 2);
        is("sacks", mill.count(6), sacks);
        is("grain", mill.count(9), 100 - 5 * sacks);
        is("worn", mill.count(10), 2 + sacks);
        is("flour", mill.count(11), 5 * sacks - 2);
        is("known", mill.count(7), 1);
        is("nothing to undo", mill.undo(), -1);
        is("not baked", mill.baked(0), -2);
        is("baked", mill.baked(1), 0);
        is("falls", Due.look(mill, 1, 4) * 10 + Due.look(mill, 0, 4), 1);
        is("drawn anew", mill.ask(1), drawn);
        is("the same one", mill.sack(drawn, 1), sin);
        is("once more", mill.back(), 2);
        is("the same sacks", mill.count(6), sacks);
        mill.days(1);
        is("another in its place", mill.keep(), 3);
        mill.days(1);
        is("back to that", mill.back(), 3);
    }

    private static void nothingBehindBack() {
        ConfessionMill mill = Due.mill(TWO + "seed 1;person r 50 did a 1;");
        mill.fall(0, 0);
        mill.keep();
        mill.fall(0, 0);
        mill.back();
        is("nothing to undo behind back", mill.undo(), -1);
        is("one fall", Due.look(mill, 0, 4), 1);
        // the numbers of seed 1: 38 is below 50, 58 is not
        mill.ask(2);
        is("truly", mill.sack(0, 4), 0);
        mill.back();
        mill.ask(2);
        is("drawn again", mill.sack(0, 4), 0);
    }

    private static void latestTwenty() {
        ConfessionMill mill = Due.mill(TWO);
        for (int k = 0; k < 5; k++) {
            mill.fall(0, 0);
        }
        for (int k = 0; k < 20; k++) {
            mill.fall(1, 1);
        }
        for (int k = 0; k < 20; k++) {
            mill.undo();
        }
        is("the oldest stay", Due.look(mill, 0, 4), 5);
        is("the latest don't", Due.look(mill, 1, 4), 0);
    }

    private static void bakedAnew() {
        ConfessionMill mill = Due.mill(TWO);
        mill.confess(1, 1);
        mill.confess(1, 1);
        mill.bake(0);
        mill.undo();
        mill.confess(0, 0);
        mill.confess(0, 0);
        mill.bake(0);
        is("of the coarser now", mill.sack(2, 3) * 10 + mill.sack(3, 3), 2);
        mill.undo();
        is("just what was taken comes again", mill.count(11), 20);
    }

    private static void tapeStays() {
        ConfessionMill mill = new ConfessionMill();
        mill.feed(0, 0, 0, 0, 0);
        mill.keep();
        mill.feed(0, 0, 0, 0, 0);
        mill.back();
        is("an image is of the mill, not of the tape", mill.feed(0, 0, 0, 0, 0), 60);
    }

    private static void count() {
        ConfessionMill mill = Due.mill(TWO + "grain 50;grist 4;may x worth + (1);may y 2;law want 3;person r 5;");
        mill.confess(0, 0);
        mill.days(3);
        mill.confess(0, 0);
        mill.known(2);
        int[] want = {2, 3, 1, 2, 5, 3, 5, 2, 1, 30, 7, 20};
        for (int what = 0; what < want.length; what++) {
            is("count(" + what + ")", mill.count(what), want[what]);
        }
        is("count(12)", mill.count(12), -1);
        is("count(-1)", mill.count(-1), -1);
        is("count(least)", mill.count(Integer.MIN_VALUE), -1);
    }

    public static void main(String[] args) {
        undo();
        refused();
        images();
        nothingBehindBack();
        latestTwenty();
        bakedAnew();
        tapeStays();
        count();
        Due.end("UndoneTest");
    }
}
