/** Promises 1 to 5: a new object, feed, text, fault, named. */
public final class TextTest {
    private static void is(String call, long got, long want) {
        Due.due(call, got, want);
    }

    private static void newObject() {
        ConfessionMill mill = new ConfessionMill();
        for (int what = 0; what <= 11; what++) {
            is("new count(" + what + ")", mill.count(what), what == 7 ? -1 : what == 9 ? 100 : 0);
        }
        is("new fault(0)", mill.fault(0), 0);
        is("new fault(1)", mill.fault(1), -1);
        is("new text(0)", mill.text(0), 0);
        is("new text(1)", mill.text(1), -2);
        is("NONE", ConfessionMill.NONE, -1);
    }

    private static void feed() {
        ConfessionMill mill = new ConfessionMill();
        for (int k = 1; k <= 35; k++) {
            is("feed " + k, mill.feed(0x20202020, 0x20202020, 0x20202020, 0x20202020, 0x20202020), 20 * k);
        }
        is("feed of 720", mill.feed(1, 2, 3, 4, 5), -1);
        is("text(701)", mill.text(701), -2);
        is("text(700) of blanks", mill.text(700), 0);
        is("feed behind it", mill.feed(1, 2, 3, 4, 5), 20);

        mill = new ConfessionMill();
        mill.feed(0x73696e20, 0x61203132, 0x3b808182, -1, 0);
        is("highest byte first", mill.text(9), 1);
        is("worth by the bytes", mill.count(0), 1);
    }

    private static void text() {
        ConfessionMill mill = new ConfessionMill();
        Due.tell(mill, "sin a 3;person p 9 did a 2;");
        mill.confess(0, 0);
        mill.keep();
        is("text of a fault", Due.tell(mill, "sin b 3;sin b 4;"), -1);
        is("its fault", mill.fault(0), 3);
        is("its place", mill.fault(1), 12);
        is("fault(2)", mill.fault(2), -1);
        is("fault(-1)", mill.fault(-1), -1);
        is("sacks stay", mill.count(6), 1);
        is("undo stays", mill.count(8), 1);
        is("sins stay", mill.named(0, Due.letters("a")), 0);
        is("image stays", mill.back(), 0);
        is("tape is empty behind a fault", mill.feed(0, 0, 0, 0, 0), 20);
        is("text(-1)", mill.text(-1), -2);
        is("text(21)", mill.text(21), -2);
        is("-2 leaves the fault", mill.fault(0), 3);
        is("-2 leaves the tape", mill.feed(0, 0, 0, 0, 0), 40);
        is("text(0)", mill.text(0), 0);
        is("text(0) empties the tape", mill.text(1), -2);

        mill = Due.mill("sin a 3;person p 9 did a 2;grain 50;stone 9;");
        mill.confess(0, 0);
        mill.fall(0, 0);
        mill.known(1);
        mill.days(2);
        mill.keep();
        is("a text behind another", Due.tell(mill, " sin q 4 ;\nperson r 8;\n"), 2);
        is("no fault any more", mill.fault(0), 0);
        is("no place any more", mill.fault(1), -1);
        is("day 0", mill.count(5), 0);
        is("no sacks", mill.count(6), 0);
        is("all known", mill.count(7), -1);
        is("nothing to undo", mill.count(8), 0);
        is("grain as without", mill.count(9), 100);
        is("worn as without", mill.count(10), 0);
        is("no image", mill.back(), -1);
        is("no falls", Due.look(mill, 0, 4), 0);
        is("nothing done", mill.did(0, 0, 0), 0);
        is("the old name", mill.named(0, Due.letters("a")), -1);
        is("grist as without", mill.confess(0, 0) == 0 ? mill.sack(0, 3) : -9, 5);
    }

    private static void cannotStand() {
        Due.faultIs(";", 1, 0);
        Due.faultIs("  1;", 1, 2);
        Due.faultIs("did a 1;", 1, 0);
        Due.faultIs("sin", 1, 3);
        Due.faultIs("sin a", 1, 5);
        Due.faultIs("sin a 1", 1, 7);
        Due.faultIs("sin a 1 \n ", 1, 10);
        Due.faultIs("sin a;", 1, 5);
        Due.faultIs("sin 1 a;", 1, 4);
        Due.faultIs("sin a 1 2;", 1, 8);
        Due.faultIs("sin a 1;;", 1, 8);
        Due.faultIs("sin A 1;", 1, 4);
        Due.faultIs("sin abcdefg 1;", 1, 4);
        Due.faultIs("person p 1;persons q 1;", 1, 11);
        Due.faultIs("sin day 1;", 1, 4);
        Due.faultIs("sin sin 1;", 1, 4);
        Due.faultIs("sin a\t1;", 1, 5);
        Due.faultIs("sin a 1\r;", 1, 7);
        Due.faultIs("sin a -1;", 1, 6);
        Due.faultIs("sin a 1." , 1, 7);
        Due.faultIs("sin a 1;person p 1 did did 1;", 1, 23);
        Due.faultIs("sin a 1;person p 1 did 1;", 1, 23);
        Due.faultIs("sin a 1;person p 1 did a;", 1, 24);
        Due.faultIs("cake c 1 1;", 1, 10);
        Due.faultIs("grain;", 1, 5);
        Due.faultIs("law foo 1;", 1, 4);
        Due.faultIs("law sin 1;", 1, 4);
        Due.faultIs("may 1;", 1, 4);
        Due.faultIs("law grind 1 2;", 1, 12);
        Due.faultIs("law grind (1;", 1, 12);
        Due.faultIs("law grind 1);", 1, 11);
        Due.faultIs("law grind ();", 1, 11);
        Due.faultIs("law grind - 1;", 1, 10);
        Due.faultIs("law grind 1 +;", 1, 13);
        Due.faultIs("law grind 1 +", 1, 13);
        Due.faultIs("law grind gin;", 1, 10);
        Due.faultIs("law grind 1 < 2 < 3;", 1, 16);
        Due.faultIs("law grind not 1 = 2 <> 3;", 1, 20);
        Due.faultIs("law grind 1 < = 2;", 1, 14);
        Due.faultIs("law grind 1 > < 2;", 1, 14);
        Due.faultIs("law grind 1 >< 2;", 1, 13);
        Due.faultIs("law grind 1 <>= 2;", 1, 14);
        Due.faultIs("law grind 1 =< 2;", 1, 13);
        Due.faultIs("law grind 1 + not 2;", 1, 14);
        Due.faultIs("law grind 1 = not 2;", 1, 14);
        Due.faultIs("law grind 1 not 2;", 1, 12);
        Due.faultIs("law grind and;", 1, 10);
        Due.faultIs("law grind ((((((((1(;", 1, 19);
        Due.faultIs("sin a " + (char) 233 + ";", 1, 6);
    }

    private static void tooMuch() {
        Due.faultIs("sin a 0100;", 2, 6);
        Due.faultIs("sin a 99999999999999999999999999;", 2, 6);
        Due.faultIs("sin a 4294967297;", 2, 6);
        Due.faultIs("person p 101;", 2, 9);
        Due.faultIs("sin a 1;person p 1 did a 0;", 2, 25);
        Due.faultIs("sin a 1;person p 1 did a 10;", 2, 25);
        Due.faultIs("cake c 1000 1 1;", 2, 7);
        Due.faultIs("cake c 1 100 1;", 2, 9);
        Due.faultIs("cake c 1 1 100;", 2, 11);
        Due.faultIs("grist 100;", 2, 6);
        Due.faultIs("law grind 10000;", 2, 10);
        Due.faultIs("sin a 1;sin b 1;sin c 1;sin d 1;sin", 2, 32);
        Due.faultIs("person a 1;person b 1;person c 1;person d 1;person e 1;person f 1;", 2, 55);
        Due.faultIs("cake a 1 1 1;cake b 1 1 1;cake c 1 1 1;cake d 1 1 1;cake e 1 1 1;cake a 1 1 1;", 2, 65);
        Due.faultIs("may a 1;may b 1;may c 1;may d 1;", 2, 24);
        Due.faultIs("law grind (((((((((1;", 2, 18);
        Due.linesAre("law grind ((((((((1)))))))) + ((((((((1))))))));", 1);
        Due.linesAre("law grind (1)+(1)+(1)+(1)+(1)+(1)+(1)+(1)+(1)+(1);", 1);
        String knots63 = "1" + "+1".repeat(31);
        Due.linesAre("law wear " + knots63 + ";law want 1;", 2);
        Due.faultIs("law wear " + knots63 + ";law want 1+1;", 2, 83);
        Due.faultIs("law wear " + knots63 + ";may m 1;law want (worth);", 2, 91);
        Due.faultIs("law wear " + knots63 + ";law want not 1;", 2, 86);
        Due.faultIs("law wear " + knots63 + ";law want 1 1;", 1, 84);
        is("64 knots", Due.mill("law wear " + knots63 + ";law want lie;").count(4), 64);
        Due.linesAre("sin a 0;sin b 99;person p 0 did a 9 did b 1;person q 100;cake c 0 1 0;cake d 999 99 99;", 6);
        Due.linesAre("grain 0;grist 1;stone 0;seed 0;law grind 9999;", 5);
        Due.linesAre("grain 9999;grist 99;stone 999;seed 99999;law grind 0;", 5);
    }

    private static void toldAlready() {
        Due.faultIs("sin a 1;sin a 1;", 3, 12);
        Due.faultIs("person p 1;person p 2;", 3, 18);
        Due.faultIs("cake c 1 1 1;cake c", 3, 18);
        Due.faultIs("may m 1;may m 1;", 3, 12);
        Due.faultIs("sin a 1;person p 1 did a 1 did a 1;", 3, 31);
        Due.faultIs("grain 1;grain", 3, 8);
        Due.faultIs("grist 1;grain 1;grist 1;", 3, 16);
        Due.faultIs("stone 1;stone 1;", 3, 8);
        Due.faultIs("seed 1;seed 1;", 3, 7);
        Due.faultIs("law pair 1;law pair 1;", 3, 15);
        Due.linesAre("sin a 1;person a 1 did a 1;person b 1 did a 1;cake a 1 1 1;may a 1;", 5);
        Due.linesAre("law grind 1;law wear 1;law want 1;law pair 1;may a 1;may b 1;may c 1;", 7);
    }

    private static void notTold() {
        Due.faultIs("person p 1 did a 1;sin a 1;", 4, 15);
        Due.faultIs("sin a 1;person p 1 did p 1;", 4, 23);
        Due.faultIs("cake a 1 1 1;person p 1 did a 1;", 4, 28);
    }

    private static void tokens() {
        Due.linesAre("", 0);
        Due.linesAre(" \n\n ", 0);
        Due.linesAre("sin a1;", 1);
        Due.linesAre("sin\na\n007;person p1did a1;", 2);
        Due.linesAre("sin abcdef 99;", 1);
        Due.linesAre("law grind 1<2;law wear 1<=2;law want 1<>2;law pair 1>=2;", 4);
        Due.linesAre("law grind 1>2or 3=4and not(1);", 1);
    }

    private static void named() {
        ConfessionMill mill = Due.mill("sin gin 1;sin zzzzzz 2;person gin 3;person z 4;cake a 1 1 1;may b 1;may a 1;");
        is("sin gin", mill.named(0, Due.letters("gin")), 0);
        is("sin zzzzzz", mill.named(0, Due.letters("zzzzzz")), 1);
        is("person gin", mill.named(1, Due.letters("gin")), 0);
        is("person z", mill.named(1, 26 << 25), 1);
        is("cake a", mill.named(2, 1 << 25), 0);
        is("may a", mill.named(3, 1 << 25), 1);
        is("cake b", mill.named(2, 2 << 25), -1);
        is("no letters", mill.named(0, 0), -1);
        is("below 0", mill.named(0, -1), -1);
        is("named(4)", mill.named(4, 1 << 25), -1);
        is("named(-1)", mill.named(-1, 1 << 25), -1);
    }

    public static void main(String[] args) {
        newObject();
        feed();
        text();
        cannotStand();
        tooMuch();
        toldAlready();
        notTold();
        tokens();
        named();
        Due.end("TextTest");
    }
}
