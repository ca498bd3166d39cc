/** Every bound that the document names of the TAPE and the TEXT (Terms 1, promises 1 to 5): at it, below, beyond. */
public final class TextEdgesTest {
    private static final String[] LANGUAGE = ("sin person did cake grain grist stone seed law may grind wear want pair "
        + "or and not worth times worn pride lie honest day").split(" ");
    private static final String USED = "seed 5;sin a 7;sin b 3;person p 40 did a 2 did b 1;person q 70 did b 2;"
        + "cake c 3 6 4;cake d 2 3 9;law grind worth + times;law pair honest;may m worth;";
    private static final int LEAST = Integer.MIN_VALUE;
    private static final int MOST = Integer.MAX_VALUE;
    private static final int BLANK = 0x20202020;

    private static void is(String call, long got, long want) {
        Due.due(call, got, want);
    }

    /** A mill with sacks, falls, a cake, an image and something to undo behind it. */
    private static ConfessionMill used() {
        ConfessionMill mill = Due.mill(USED);
        mill.confess(0, 0);
        mill.ask(1);
        mill.bake(1);
        mill.days(1);
        mill.known(1);
        mill.keep();
        mill.fall(1, 0);
        mill.confess(0, 1);
        return mill;
    }

    private static int feedBlanks(ConfessionMill mill) {
        return mill.feed(BLANK, BLANK, BLANK, BLANK, BLANK);
    }

    private static ConfessionMill fullTape() {
        ConfessionMill mill = Due.mill(USED);
        mill.confess(0, 0);
        mill.keep();
        for (int k = 0; k < 34; k++) {
            feedBlanks(mill);
        }
        mill.feed(BLANK, BLANK, 0x73696e20, 0x6120373b, 0x3f202020);
        return mill;
    }

    // "A TEXT without LINES; an empty TAPE."
    private static void newObject() {
        ConfessionMill mill = new ConfessionMill();
        is("the tape of a new one has not one byte", mill.text(1), -2);
        ConfessionMill told = new ConfessionMill();
        is("a text without lines", told.text(0), 0);
        Seen.sameFromNowOn("a new one is as behind a text without lines", mill, told);
        is("a new tape takes the first twenty", feedBlanks(new ConfessionMill()), 20);
    }

    // "how many it has; NONE, and none come, if it would have more than 700"
    private static void tapeOf700() {
        ConfessionMill mill = new ConfessionMill();
        for (int k = 1; k <= 34; k++) {
            is("feed " + k, feedBlanks(mill), 20 * k);
        }
        is("680 and 20 are 700", feedBlanks(mill), 700);
        is("700 and 20 are too many", feedBlanks(mill), -1);
        is("and stay so", mill.feed(LEAST, MOST, 0, -1, 1), -1);
        Seen.unchanged("feed on a full tape", TextEdgesTest::fullTape, TextEdgesTest::feedBlanks, -1);
        mill = fullTape();
        feedBlanks(mill);
        is("701 are not there", mill.text(701), -2);
        is("of 700 the bytes ahead of it are as they came", mill.text(700), -1);
        is("the sign of the last twenty", mill.fault(1), 696);
        is("it takes twenty again", feedBlanks(mill), 20);
    }

    // "Twenty bytes come behind the TAPE, four of each number, the highest first"
    private static void bytesOfNumbers() {
        ConfessionMill mill = new ConfessionMill();
        mill.feed(0x73696e20, 0x61203132, 0x3b73696e, 0x20622033, 0x343b3f3f);
        is("two lines of 18 bytes", mill.text(18), 2);
        is("the worth of a", mill.mills(1, 0, 0), 12);
        is("the worth of b", mill.mills(1, 1, 0), 34);
        mill.feed(0x73696e20, 0x61203132, 0x3b73696e, 0x20622033, 0x343b3f3f);
        is("its 19th byte", mill.text(19), -1);
        is("is the third of the fifth number", mill.fault(1), 18);
        for (int k = 0; k < 20; k++) {
            int[] n = {BLANK, BLANK, BLANK, BLANK, BLANK};
            n[k / 4] |= 255 << 24 - k % 4 * 8;
            mill.feed(n[0], n[1], n[2], n[3], n[4]);
            is("a byte of 255", mill.text(20), -1);
            is("at its place", mill.fault(1), k);
        }
    }

    // "-2, and the TAPE stays: there are not so many, n is below 0"; "The TAPE's first n bytes (it is empty then)"
    private static void textOfSoMany() {
        for (int n : new int[] {-1, -2, LEAST, 701, MOST}) {
            Seen.unchanged("text(" + n + ")", TextEdgesTest::fullTape, mill -> mill.text(n), -2);
        }
        ConfessionMill mill = new ConfessionMill();
        mill.feed(0x73696e20, 0x6120373b, 0x73696e20, 0x6220383b, 0x3f3f3f3f);
        is("one more than there are", mill.text(21), -2);
        is("below 0", mill.text(-1), -2);
        is("the tape stayed: its first 16", mill.text(16), 2);
        is("the rest is gone", mill.text(1), -2);
        mill.feed(0x73696e20, 0x7a203939, 0x3b202020, BLANK, BLANK);
        is("all twenty", mill.text(20), 1);
        is("of the new bytes", mill.named(0, Due.letters("z")), 0);
        mill.feed(0x3f3f3f3f, BLANK, BLANK, BLANK, BLANK);
        is("none of twenty", mill.text(0), 0);
        is("no lines, no sins", mill.count(0), 0);
        is("empty then, too", feedBlanks(mill), 20);

        String last = "sin a 7" + " ".repeat(692) + ";";
        Due.linesAre(last, 1);
        Due.faultIs(last.substring(0, 699), 1, 699);
    }

    // "are the TEXT (DAY 0, no SACKS, all KNOWN, no IMAGE, nothing to undo then): how many LINES"
    private static void allBeginsAnew() {
        for (String text : new String[] {"", USED, "sin z 9;person y 5 did z 3;seed 4;cake e 0 1 0;", "grain 7;"}) {
            ConfessionMill mill = used();
            Due.tell(mill, text);
            is("no image behind [" + text + "]", mill.back(), -1);
            is("nothing to undo behind [" + text + "]", mill.undo(), -1);
            ConfessionMill other = new ConfessionMill();
            Due.tell(other, text);
            Seen.sameFromNowOn("as a new one behind [" + text + "]", mill, other);
        }
        StringBuilder lines = new StringBuilder();
        String[] parts = {"sin a 1;", "person p 1;", "cake c 1 1 1;", "grain 1;", "grist 1;", "stone 1;", "seed 1;",
            "law grind 1;", "law wear 1;", "law want 1;", "law pair 1;", "may m 1;"};
        for (int k = 0; k < parts.length; k++) {
            lines.append(parts[k]);
            Due.linesAre(lines.toString(), k + 1);
        }
    }

    // Also behind many texts, with and without a FAULT, nothing of an earlier one is left
    private static void manyTexts() {
        String rich = "grain 77;grist 9;stone 8;seed 6;sin a 7;sin b 3;person p 40 did a 2 did b 1;person q 70 did b 2;cake c 3 6 4;"
            + "law grind worth + 1;law wear 9;law want 9 - worth;law pair honest;may m worth;";
        String bare = "sin z 4;sin y 5;person x 50;person w 60 did y 1;cake v 0 5 0;";
        String open = "law grind ((((((((1 + not";
        String nots = "law grind not not not (((";
        tellAll(rich, rich, bare, bare);
        tellAll(rich, bare, rich, "");
        tellAll(rich, open, bare, open);
        tellAll(nots, rich, nots, rich);
        tellAll(bare, rich, "", bare);
        tellAll("", "", rich, bare);
        tellAll(rich, "", "sin a 7;sin b 1;person p 39 did a 1;grain 50;");
        String one = "sin a 7;person p 39 did a 1;person q 1;law wear ";
        tellAll(one + "not not 5;", one + "not not 6;", one + "7;", one + "8;");
        tellAll(one + "9 - 5;", one + "9 - 6;", one + "7;law want 3;", one + "8;law pair 3;");
        String many = "sin a 7;person p 39;law grind " + "not ".repeat(40) + "9;may m worth * " + "1 * ".repeat(10) + "2;";
        tellAll(many, many, many, many, bare, many);
    }

    /** Tells one text behind another, uses the mill in between, and compares it with a new one each time. */
    private static void tellAll(String... texts) {
        ConfessionMill mill = new ConfessionMill();
        ConfessionMill other = mill;
        String told = "";
        for (String text : texts) {
            mill.confess(0, 0);
            mill.confess(1, 0);
            mill.fall(0, 1);
            if (Due.tell(mill, text) < 0) {
                Due.tell(mill, told);
            } else {
                told = text;
            }
            other = new ConfessionMill();
            Due.tell(other, told);
            Seen.same("behind many texts, [" + told + "]", mill, other);
        }
        for (int k = 0; k < 6; k++) {
            is("asked behind many texts, [" + told + "]", mill.ask(k % 2), other.ask(k % 2));
        }
        Seen.same("asked behind many texts, [" + told + "]", mill, other);
    }

    // "the first n bytes": what is behind them is none of the text, be it letters or digits
    private static void cutWithinTokens() {
        cutIs("sin a 100;", 8, 1, 8);
        cutIs("sin a 100;", 9, 2, 6);
        cutIs("law wear 1;", 7, 1, 4);
        cutIs("law wear 1;", 8, 1, 8);
        cutIs("sin abcdefg 1;", 10, 1, 10);
        cutIs("sin abcdefg 1;", 11, 1, 4);
        cutIs("law wear lies;", 12, 1, 12);
        cutIs("law wear lies;", 13, 1, 9);
        Due.faultIs("sin " + "x".repeat(696), 1, 4);
        Due.faultIs("sin a " + "9".repeat(694), 2, 6);
        Due.faultIs("law wear 1" + "<".repeat(690), 1, 11);
        Due.faultIs(";".repeat(700), 1, 0);
        Due.faultIs("(".repeat(699), 1, 0);
    }

    private static void cutIs(String text, int n, int what, int place) {
        ConfessionMill mill = new ConfessionMill();
        int[] numbers = Due.numbersOf(text);
        mill.feed(numbers[0], numbers[1], numbers[2], numbers[3], numbers[4]);
        is("text(" + n + ") of [" + text + "]", mill.text(n), -1);
        is("its fault", mill.fault(0), what);
        is("its place", mill.fault(1), place);
    }

    // "NONE with a FAULT, all stays"
    private static void faultLeavesAll() {
        String[] texts = {"sin z 1;?", "sin z 100;", "sin z 1;sin z 2;", "person z 1 did z 1;", "sin z 1;sin y 2;person x 9;law"};
        int[] faults = {1, 2, 3, 4, 1};
        int[] places = {8, 6, 12, 15, 30};
        for (int k = 0; k < texts.length; k++) {
            String text = texts[k];
            Seen.unchanged("text of [" + text + "]", TextEdgesTest::used, mill -> Due.tell(mill, text), -1);
            ConfessionMill mill = used();
            Due.tell(mill, text);
            is("its fault", mill.fault(0), faults[k]);
            is("its place", mill.fault(1), places[k]);
            is("the tape is empty then", mill.text(1), -2);
            is("no name of it", mill.named(0, Due.letters("z")), -1);
            is("names stay", mill.named(1, Due.letters("q")), 1);
        }
    }

    // "Of the latest text() that was not -2 ... NONE for another what."
    private static void latestFault() {
        ConfessionMill mill = new ConfessionMill();
        is("none at first", mill.fault(0), 0);
        is("no place at first", mill.fault(1), -1);
        mill.text(1);
        is("none behind -2", mill.fault(0), 0);
        Due.tell(mill, "  ;");
        is("a fault", mill.fault(0) * 10 + mill.fault(1), 12);
        mill.text(-1);
        mill.text(1);
        is("-2 leaves it", mill.fault(0) * 10 + mill.fault(1), 12);
        for (int what : new int[] {-1, 2, 3, LEAST, MOST}) {
            is("fault(" + what + ")", mill.fault(what), -1);
        }
        mill.keep();
        mill.back();
        mill.days(1);
        is("other calls leave it", mill.fault(0) * 10 + mill.fault(1), 12);
        Due.tell(mill, "sin a 100;");
        is("another fault", mill.fault(0) * 10 + mill.fault(1), 26);
        mill.text(0);
        is("none behind a text without", mill.fault(0), 0);
        is("no place behind a text without", mill.fault(1), -1);
    }

    // "W: one of 1 .. 6 letters, none of those of the language"; "(a word of more than 6 letters, too)"
    private static void words() {
        String[] ahead = {"sin ", "person ", "cake ", "may "};
        String[] behind = {" 1;", " 1;", " 1 1 1;", " 1;"};
        for (int kind = 0; kind < 4; kind++) {
            Due.linesAre(ahead[kind] + "z" + behind[kind], 1);
            Due.linesAre(ahead[kind] + "abcdef" + behind[kind], 1);
            Due.faultIs(ahead[kind] + "abcdefg" + behind[kind], 1, ahead[kind].length());
            Due.faultIs(ahead[kind] + behind[kind], 1, ahead[kind].length() + 1);
            for (String word : LANGUAGE) {
                Due.faultIs(ahead[kind] + word + behind[kind], 1, ahead[kind].length());
                Due.linesAre(ahead[kind] + word.substring(1) + "z" + behind[kind], 1);
            }
        }
        for (String word : LANGUAGE) {
            Due.faultIs("sin a 1;person p 1 did " + word + " 1;", 1, 23);
        }
        Due.faultIs("sin abcdef 1;person p 1 did abcdefg 1;", 1, 28);
        Due.linesAre("sin abcdef 1;person p 1 did abcdef 1;", 2);
        Due.faultIs("persons p 1;", 1, 0);
        Due.faultIs("law grinder 1;", 1, 4);
        Due.faultIs("law wear honests;", 1, 9);
        Due.faultIs("law wear honesty;", 1, 9);
        Due.faultIs("law wear wor;", 1, 9);
        Due.faultIs("sin a 1 " + "x".repeat(600) + ";", 1, 8);
    }

    // "KIND: grind | wear | want | pair"; a LINE and an E begin with their own words alone
    private static void wordsInPlace() {
        String lines = " sin person cake grain grist stone seed law may ";
        String kinds = " grind wear want pair ";
        String names = " worth times worn pride lie honest day ";
        for (String word : LANGUAGE) {
            if (!lines.contains(" " + word + " ")) {
                Due.faultIs(word + " a 1;", 1, 0);
            }
            if (kinds.contains(" " + word + " ")) {
                Due.linesAre("law " + word + " 1;", 1);
            } else {
                Due.faultIs("law " + word + " 1;", 1, 4);
            }
            if (names.contains(" " + word + " ")) {
                Due.linesAre("law wear " + word + ";", 1);
            } else if (!word.equals("not")) {
                Due.faultIs("law wear " + word + " 1;", 1, 9);
            }
        }
        Due.linesAre("law wear not 1;", 1);
    }

    // "Blanks 10, 32"; every other sign that is no token is a FAULT at its place
    private static void blanksAndSigns() {
        for (int sign = 0; sign < 256; sign++) {
            boolean letter = sign >= 'a' && sign <= 'z';
            boolean digit = sign >= '0' && sign <= '9';
            if (sign == 10 || sign == 32) {
                Due.linesAre((char) sign + "sin" + (char) sign + "a" + (char) sign + "1" + (char) sign + ";" + (char) sign, 1);
            } else if (!letter && !digit) {
                Due.faultIs((char) sign + "sin a 1;", 1, 0);
                Due.faultIs("sin" + (char) sign + "a 1;", 1, 3);
                Due.faultIs("sin a 1" + (char) sign + "?", 1, sign == ';' ? 8 : 7);
            }
        }
        Due.linesAre("sin a1;person p2did a3;grain4;law wear 5<6or lie;", 4);
        Due.faultIs("sin a 1;\0", 1, 8);
    }

    // "N: digits": zeros ahead don't matter, however many; no sign, no point
    private static void digits() {
        String zeros = "0".repeat(600);
        Due.linesAre("sin a " + zeros + "99;", 1);
        Due.faultIs("sin a " + zeros + "100;", 2, 6);
        Due.faultIs("sin a 1" + zeros + ";", 2, 6);
        Due.linesAre("law wear " + zeros + "9999;", 1);
        Due.faultIs("law wear " + zeros + "10000;", 2, 9);
        Due.linesAre("seed " + zeros + ";", 1);
        // 2 to the 32 and to the 64, and one more: what wraps around would be small
        for (String far : new String[] {"4294967296", "4294967297", "18446744073709551616", "18446744073709551617"}) {
            Due.faultIs("sin a " + far + ";", 2, 6);
            Due.faultIs("grist " + far + ";", 2, 6);
            Due.faultIs("law wear " + far + ";", 2, 9);
        }
        Due.faultIs("sin a +1;", 1, 6);
        Due.faultIs("sin a 1 1;", 1, 8);
        Due.faultIs("sin a (1);", 1, 6);
    }

    // "A = (or > behind <) right behind < or > belongs to it."
    private static void signsOfTwo() {
        for (String sign : new String[] {"<", "<=", "=", "<>", ">=", ">"}) {
            Due.linesAre("law wear 1" + sign + "2;", 1);
            Due.linesAre("law wear 1 " + sign + " 2;", 1);
            Due.faultIs("law wear 1" + sign + sign.charAt(0) + "2;", 1, 10 + sign.length());
            Due.faultIs("law wear 1" + sign, 1, 10 + sign.length());
        }
        String[] apart = {"< =", "< >", "> =", "> <", "= <", "= >", "= ="};
        for (String two : apart) {
            Due.faultIs("law wear 1" + two + "2;", 1, 12);
        }
        for (String two : new String[] {"><", "=<", "=>", "==", "<<", ">>"}) {
            Due.faultIs("law wear 1" + two + "2;", 1, 11);
        }
        for (String three : new String[] {"<==", "<=>", "<>=", "<><", ">==", ">=<"}) {
            Due.faultIs("law wear 1" + three + "2;", 1, 12);
        }
        ConfessionMill mill = new ConfessionMill();
        mill.feed(0x6c617720, 0x77656172, 0x20313c3d, 0x323b2020, BLANK);
        is("cut behind <", mill.text(11), -1);
        is("what is behind the cut doesn't belong to it", mill.fault(1), 11);
    }

    /** A number's bounds: both are fine, one below and one beyond are too much, at the number's place. */
    private static void bounds(String ahead, int least, int most, String behind) {
        Due.linesAre(ahead + least + behind, lines(ahead + behind));
        Due.linesAre(ahead + most + behind, lines(ahead + behind));
        Due.linesAre(ahead + "000" + most + behind, lines(ahead + behind));
        Due.faultIs(ahead + (most + 1) + behind, 2, ahead.length());
        Due.faultIs(ahead + "0" + (most + 1) + behind, 2, ahead.length());
        if (least > 0) {
            Due.faultIs(ahead + (least - 1) + behind, 2, ahead.length());
            Due.faultIs(ahead + "000" + behind, 2, ahead.length());
        } else {
            Due.faultIs(ahead + "-1" + behind, 1, ahead.length());
        }
    }

    private static int lines(String text) {
        return (int) text.chars().filter(sign -> sign == ';').count();
    }

    // "2 too much (at it): a number beyond what is said"
    private static void numbers() {
        bounds("sin a ", 0, 99, ";");
        bounds("person p ", 0, 100, ";");
        bounds("sin a 1;person p 1 did a ", 1, 9, ";");
        bounds("sin a 1;sin b 1;person p 1 did a 1 did b ", 1, 9, ";");
        bounds("cake c ", 0, 999, " 1 1;");
        bounds("cake c 1 ", 1, 99, " 1;");
        bounds("cake c 1 1 ", 0, 99, ";");
        bounds("grain ", 0, 9999, ";");
        bounds("grist ", 1, 99, ";");
        bounds("stone ", 0, 999, ";");
        bounds("seed ", 0, 99999, ";");
        for (String kind : new String[] {"law grind ", "law wear ", "law want ", "law pair ", "may m "}) {
            bounds(kind, 0, 9999, ";");
            bounds(kind + "worth + (1 * ", 0, 9999, ");");
        }
    }

    // "(100 without)", "(5)", "(0)", "(0)"
    private static void without() {
        String some = "sin a 7;sin b 9;person p 50 did a 1;";
        Seen.sameFromNowOn("grain without", Due.mill(some), Due.mill(some + "grain 100;"));
        Seen.sameFromNowOn("grist without", Due.mill(some), Due.mill(some + "grist 5;"));
        Seen.sameFromNowOn("stone without", Due.mill(some), Due.mill(some + "stone 0;"));
        Seen.sameFromNowOn("seed without", Due.mill(some), Due.mill(some + "seed 0;"));
        ConfessionMill mill = Due.mill(some);
        is("grain", mill.count(9), 100);
        is("worn", mill.count(10), 0);
        is("grist", mill.confess(0, 0) == 0 ? mill.sack(0, 3) : -9, 5);
        // the first number of seed 0 is 12345 by 65536: 0, which is below HONEST 1; of seed 1 it is 16838
        is("truly by 0", askedOnce(""), 0);
        is("a lie by 38", askedOnce("seed 1;"), 1);
        mill = Due.mill(some + "grain 9999;grist 99;stone 999;");
        mill.confess(0, 0);
        is("grain told", mill.count(9), 9900);
        is("grist told", mill.sack(0, 3), 99);
        is("stone told", mill.count(10), 1000);
        mill = Due.mill(some + "grain 0;grist 1;stone 0;");
        is("no grain told", mill.confess(0, 0), -2);
        is("no grain", mill.count(9), 0);
    }

    private static int askedOnce(String seed) {
        ConfessionMill mill = Due.mill(seed + "sin a 7;sin b 1;person p 1 did a 1;");
        return mill.sack(mill.ask(0), 4);
    }

    // "SINS, at most 4", "PEOPLE, at most 5", "CAKES, at most 5", "MAY, at most 3"; "a fifth sin and so on (at the word of the LINE)"
    private static void howMany() {
        howManyOf(0, 4, "sin ", " 1;");
        howManyOf(1, 5, "person ", " 1;");
        howManyOf(2, 5, "cake ", " 1 1 1;");
        howManyOf(3, 3, "may ", " 1;");
    }

    private static void howManyOf(int kind, int most, String ahead, String behind) {
        StringBuilder text = new StringBuilder();
        is("none of " + ahead, Due.mill("").count(kind), 0);
        for (int k = 0; k < most; k++) {
            text.append(ahead).append((char) ('a' + k)).append(behind);
            ConfessionMill mill = Due.mill(text.toString());
            is("so many of " + ahead, mill.count(kind), k + 1);
            for (int j = 0; j <= most; j++) {
                is("numbered as they come", mill.named(kind, j + 1 << 25), j <= k ? j : -1);
            }
        }
        String full = text.toString();
        int place = full.length();
        Due.faultIs(full + ahead + "z" + behind, 2, place);
        Due.faultIs(full + " \n " + ahead + "z" + behind, 2, place + 3);
        Due.faultIs(full + ahead + "a" + behind, 2, place);
        Due.faultIs(full + ahead + "?", 2, place);
        Due.faultIs(full + ahead, 2, place);
        Due.faultIs(full + ahead + "abcdefg 10000;", 2, place);
        Due.linesAre(full + "grain 1;", most + 1);
    }

    // "SINS that they did 1 .. 9 times (each SIN once)"
    private static void deeds() {
        String sins = "sin a 1;sin b 2;sin c 3;sin d 4;";
        ConfessionMill mill = Due.mill(sins + "person p 1 did d 9 did b 1 did a 2 did c 3;person q 1;person r 1 did a 1;");
        int[] done = {2, 1, 3, 9};
        for (int sin = 0; sin < 4; sin++) {
            is("done " + sin, mill.did(0, sin, 0), done[sin]);
            is("done by one who did none", mill.did(1, sin, 0), 0);
            is("done by another", mill.did(2, sin, 0), sin == 0 ? 1 : 0);
        }
        Due.faultIs(sins + "person p 1 did a 1 did b 1 did c 1 did d 1 did a 1;", 3, 79);
        Due.faultIs(sins + "person p 1 did d 1 did d 10;", 3, 55);
        Due.faultIs(sins + "person p 1 did a 1 did e 1;", 4, 55);
        Due.faultIs(sins + "person p 1 did a;", 1, 48);
        Due.faultIs(sins + "person p 1 did;", 1, 46);
        Due.faultIs(sins + "person p 1 did a 1 did", 1, 54);
        Due.faultIs(sins + "person p did a 1;", 1, 41);
        Due.faultIs(sins + "person p 1 a 1;", 1, 43);
    }

    // "a ninth '(' open"
    private static void open() {
        for (String kind : new String[] {"law grind ", "law wear ", "law want ", "law pair ", "may m "}) {
            for (int depth = 1; depth <= 8; depth++) {
                Due.linesAre(kind + "(".repeat(depth) + "1" + ")".repeat(depth) + ";", 1);
            }
            Due.faultIs(kind + "(".repeat(9) + "1" + ")".repeat(9) + ";", 2, kind.length() + 8);
            Due.faultIs(kind + "1+" + "( ".repeat(9) + "1" + ")".repeat(9) + ";", 2, kind.length() + 18);
            Due.faultIs(kind + "((((((((1)+((1))))))));", 2, kind.length() + 12);
            Due.linesAre(kind + "((((((((1)+(1))))))));", 1);
            Due.faultIs(kind + "(".repeat(9), 2, kind.length() + 8);
            Due.faultIs(kind + "(".repeat(8), 1, kind.length() + 8);
            Due.faultIs(kind + "(".repeat(8) + "1" + ")".repeat(7) + ";", 1, kind.length() + 16);
            Due.faultIs(kind + "(".repeat(8) + "1" + ")".repeat(9) + ";", 1, kind.length() + 17);
        }
        is("63 not of 1", Due.mill("sin a 1;person p 1;law wear " + "not ".repeat(63) + "1;").law(1, 0, 0), 0);
        String nots = "((((((((" + "not ".repeat(62) + "(1))))))))";
        Due.faultIs("law wear " + nots + ");", 2, 9 + 8 + 62 * 4);
        nots = "(((((((" + "not ".repeat(62) + "(5))))))))";
        is("62 not of 5 in eight", Due.mill("sin a 1;person p 1;law wear " + nots + ";").law(1, 0, 0), 1);
        nots = "((((((((" + "not ".repeat(63) + "5))))))))";
        is("63 not of 5 in eight", Due.mill("sin a 1;person p 1;law wear " + nots + ";").law(1, 0, 0), 0);
        Due.linesAre("law wear 1 + (not 1);law want 1 < (not (2 < 3));", 2);
        String eight = "((((((((1))))))))";
        Due.linesAre("law grind " + eight + ";law wear " + eight + "*" + eight + ";may m " + eight + ";", 3);
        Due.linesAre("law grind " + "(1)+".repeat(20) + "1;", 1);
    }

    private static String knots(int n) {
        return n % 2 == 1 ? "1" + "+1".repeat(n / 2) : "not 1" + "+1".repeat(n / 2 - 1);
    }

    // "a 65th KNOT of all E (N, NAMES, signs, not, and, or: one each)"
    private static void knots() {
        is("no knots", Due.mill("sin a 1;").count(4), 0);
        for (int n = 1; n <= 64; n++) {
            is("knots", Due.mill("law wear " + knots(n) + ";").count(4), n);
        }
        Due.faultIs("law wear " + knots(65) + ";", 2, 9 + 64);
        String full = "law wear " + knots(64) + ";";
        int place = full.length();
        for (String more : new String[] {"1", "worth", "day", "not 1", "10000"}) {
            Due.faultIs(full + "law want " + more + ";", 2, place + 9);
            Due.faultIs(full + "may m " + more + ";", 2, place + 6);
            Due.faultIs(full + "law pair ( ((" + more + ")));", 2, place + 13);
        }
        String one = "law wear " + knots(63) + ";";
        for (String sign : new String[] {"+", "-", "*", "/", "<", "<=", "=", "<>", ">=", ">", "and", "or"}) {
            Due.faultIs(one + "law want lie " + sign + " 1;", 2, one.length() + 13);
            Due.linesAre("law wear " + knots(61) + ";law want lie " + sign + " 1;", 2);
            Due.faultIs("law wear " + knots(62) + ";law want lie " + sign + " 1;", 2,
                10 + knots(62).length() + 14 + sign.length());
        }
        Due.linesAre(one + "law want lie;", 2);
        Due.linesAre(one + "law want ((((((((lie))))))));", 2);
        Due.faultIs(one + "law want not lie;", 2, one.length() + 13);
        is("brackets are none", Due.mill("law wear ((1)+((2)));").count(4), 3);
        is("a sign of two is one", Due.mill("law wear 1<=2 and 3<>4 or not 5>=6;").count(4), 12);
        // 9, 9, 9, 9 and three times 9 knots and one more: each E has its value, the last one, too
        String sum = "1+1+1+1+";
        ConfessionMill mill = Due.mill("sin a 2;person p 1 did a 1;person q 1;law grind " + sum + "3;law wear " + sum + "5;law want " + sum + "6;"
            + "law pair " + sum + "7;may a " + sum + "8;may b " + sum + "9;may c 1+1+1+3+(not 0);");
        is("64 knots in seven", mill.count(4), 64);
        for (int what = 0; what < 4; what++) {
            is("law " + what + " of seven", mill.law(what, 0, what == 3 ? 1 : 0), new int[] {7, 9, 10, 11}[what]);
        }
        mill.confess(0, 0);
        is("the last of seven has 7, as the first", mill.fits(), 8 + 4);
        mill = Due.mill("sin a 2;person p 1;law grind " + knots(50) + " + 7;may a 1;may b 26;may c 0 or 1 = 2 * 1;");
        is("61 knots in four", mill.count(4), 52 + 1 + 1 + 7);
        mill.confess(0, 0);
        is("the last of four has 0, as the first", mill.fits(), 8 + 4);
        String each = "law grind 1+2;law wear 1+2+3;law want 1;law pair lie;may a not 1;may b 1<2;may c 4;";
        is("of all E", Due.mill(each).count(4), 3 + 5 + 1 + 1 + 2 + 3 + 1);
    }

    // "3 told already: a name of its kind (at W) ... grain, grist, stone, seed (at the word), a law of its KIND (at KIND)"
    private static void toldAlready() {
        String[] ahead = {"sin ", "person ", "cake ", "may "};
        String[] behind = {" 1;", " 1;", " 1 1 1;", " 1;"};
        for (int kind = 0; kind < 4; kind++) {
            String first = ahead[kind] + "abcdef" + behind[kind];
            Due.faultIs(first + ahead[kind] + " abcdef" + behind[kind], 3, first.length() + ahead[kind].length() + 1);
            Due.faultIs(first + ahead[kind] + "abcdef", 3, first.length() + ahead[kind].length());
            Due.linesAre(first + ahead[kind] + "abcde" + behind[kind], 2);
            Due.linesAre(first + ahead[kind] + "bbcdef" + behind[kind], 2);
            for (int other = 0; other < 4; other++) {
                if (other != kind) {
                    Due.linesAre(first + ahead[other] + "abcdef" + behind[other], 2);
                }
            }
        }
        for (String once : new String[] {"grain", "grist", "stone", "seed"}) {
            String first = once + " 1;";
            Due.faultIs(first + " " + once + " 1;", 3, first.length() + 1);
            Due.faultIs(first + once + ";", 3, first.length());
            Due.faultIs(first + once, 3, first.length());
            Due.faultIs(first + "sin a 1;" + once + " 99999999;", 3, first.length() + 8);
        }
        Due.linesAre("grain 1;grist 1;stone 1;seed 1;", 4);
        for (String kind : new String[] {"grind", "wear", "want", "pair"}) {
            String first = "law " + kind + " 1;";
            Due.faultIs(first + "law  " + kind + " 1;", 3, first.length() + 5);
            Due.faultIs(first + "law " + kind, 3, first.length() + 4);
            Due.faultIs(first + "may a 1;may b 1;law " + kind + " ?", 3, first.length() + 20);
        }
    }

    // "4 a SIN that isn't told ahead (at W)"
    private static void notToldAhead() {
        Due.faultIs("person p 1 did a 1;", 4, 15);
        Due.faultIs("person p 1 did  a 1;sin a 1;", 4, 16);
        Due.faultIs("person p 1 did p 1;", 4, 15);
        Due.faultIs("sin a 1;person p 1 did aa 1;", 4, 23);
        Due.faultIs("sin aa 1;person p 1 did a 1;", 4, 24);
        Due.faultIs("person a 1;cake a 1 1 1;may a 1;person p 1 did a 1;", 4, 47);
        Due.faultIs("person p 1 did a", 4, 15);
        Due.faultIs("person p 1 did a 10;", 4, 15);
        Due.linesAre("sin a 1;person p 1 did a 1;sin b 1;person q 1 did b 1;", 4);
    }

    // "FAULTS, the first along the text (of one place the least), with its place"
    private static void firstAndLeast() {
        Due.faultIs("sin a 100;?", 2, 6);
        Due.faultIs("sin a 100;sin a 1;", 2, 6);
        Due.faultIs("sin a 1;sin a 100;", 3, 12);
        Due.faultIs("person p 101 did a 1;", 2, 9);
        Due.faultIs("person p 1 did a 1;?", 4, 15);
        Due.faultIs("?person p 1 did a 1;", 1, 0);
        Due.faultIs("grain 10000;grain 1;", 2, 6);
        Due.faultIs("cake c 1000 0 100;", 2, 7);
        Due.faultIs("cake c 1 0 100;", 2, 9);
        Due.faultIs("law wear (((((((((10000;", 2, 17);
        Due.faultIs("law wear ((((((((10000;", 2, 17);
        Due.faultIs("sin 100 1;", 1, 4);
        Due.faultIs("grain worth;", 1, 6);
        Due.faultIs("10000 sin a 1;", 1, 0);
        Due.faultIs("law wear 1 10000;", 1, 11);
        Due.faultIs("law wear ((((((((1(;", 1, 18);
        String knots62 = "law wear " + knots(62) + ";";
        Due.faultIs(knots62 + "law want 1+not 1;", 1, knots62.length() + 11);
        String knots61 = "law wear " + knots(61) + ";";
        Due.faultIs(knots61 + "law want 1<1<1;", 1, knots61.length() + 12);
        String full = "law wear " + knots(64) + ";";
        Due.faultIs(full + "law want +1;", 1, full.length() + 9);
        Due.faultIs(full + "law want and;", 1, full.length() + 9);
        Due.faultIs(full + "law want ;", 1, full.length() + 9);
        Due.faultIs(full + "law want )1;", 1, full.length() + 9);
        Due.faultIs(full + "law want", 1, full.length() + 8);
    }

    // "can't stand there (the length, if more must come)": every text that is cut within a LINE
    private static void cutAnywhere() {
        String text = "sin a 12;person p 34 did a 5;cake c 6 7 8;grain 9;law wear (1+ 2)*lie;may m not day;";
        for (int n = 0; n <= text.length(); n++) {
            String cut = text.substring(0, n);
            if (cut.isEmpty() || cut.endsWith(";")) {
                Due.linesAre(cut, lines(cut));
            } else if (cut.endsWith(" ")) {
                Due.faultIs(cut, 1, n);
            }
        }
        for (String cut : new String[] {"sin", "sin a", "sin a 1", "person p", "person p 1", "cake c 1", "cake c 1 1", "cake c 1 1 1",
            "grain", "grist 1", "stone", "seed 1", "law", "law wear", "law wear 1", "law wear (", "law wear (1", "law wear (1)",
            "law wear 1+", "law wear not", "may", "may m", "may m 1"}) {
            Due.faultIs(cut, 1, cut.length());
            Due.faultIs(cut + " \n", 1, cut.length() + 2);
        }
    }

    // "by its letters, 5 bits each (a is 1; the first one highest of six, 0 behind the last one); NONE: there is none such"
    private static void named() {
        is("none of a new one", new ConfessionMill().named(0, 1 << 25), -1);
        ConfessionMill mill = Due.mill("sin a 1;sin z 1;sin abcdef 1;sin zzzzzz 1;person q 1;cake r 1 1 1;may s 1;");
        is("a", mill.named(0, 1 << 25), 0);
        is("z", mill.named(0, 26 << 25), 1);
        is("six letters", mill.named(0, ((((1 << 5 | 2) << 5 | 3) << 5 | 4) << 5 | 5) << 5 | 6), 2);
        is("the greatest", mill.named(0, Due.letters("zzzzzz")), 3);
        is("five of six letters", mill.named(0, Due.letters("abcde")), -1);
        is("another last letter", mill.named(0, Due.letters("abcdeg")), -1);
        is("lowest instead of highest", mill.named(0, 1), -1);
        is("with a bit above them", mill.named(0, 1 << 25 | 1 << 30), -1);
        is("with the sign", mill.named(0, 1 << 25 | LEAST), -1);
        is("with one behind the last", mill.named(0, 1 << 25 | 1), -1);
        is("no letters", mill.named(0, 0), -1);
        for (int letters : new int[] {-1, LEAST, MOST, 27 << 25, 1 << 30}) {
            is("named(0, " + letters + ")", mill.named(0, letters), -1);
        }
        for (int what : new int[] {-1, 4, 5, LEAST, MOST}) {
            is("named(" + what + ")", mill.named(what, 1 << 25), -1);
        }
        String[][] full = {{"a", "b", "c", "d"}, {"e", "f", "g", "h", "i"}, {"j", "k", "l", "m", "n"}, {"o", "p", "q"}};
        ConfessionMill whole = Due.mill("may o 1;cake j 1 1 1;person e 1;sin a 1;sin b 1;sin c 1;sin d 1;person f 1;person g 1;person h 1;"
            + "person i 1;cake k 1 1 1;cake l 1 1 1;cake m 1 1 1;cake n 1 1 1;may p 1;may q 1;");
        for (int what = 0; what < 4; what++) {
            for (char letter = 'a'; letter <= 'z'; letter++) {
                int want = java.util.Arrays.asList(full[what]).indexOf(String.valueOf(letter));
                is("of a full text, " + what + " " + letter, whole.named(what, letter - 'a' + 1 << 25), want);
            }
        }
        String[] names = {"a", "q", "r", "s"};
        for (int what = 0; what < 4; what++) {
            for (int k = 0; k < 4; k++) {
                is("only of its kind", mill.named(what, Due.letters(names[k])), what == k ? 0 : -1);
            }
        }
    }

    public static void main(String[] args) {
        newObject();
        tapeOf700();
        bytesOfNumbers();
        textOfSoMany();
        allBeginsAnew();
        manyTexts();
        cutWithinTokens();
        faultLeavesAll();
        latestFault();
        words();
        wordsInPlace();
        blanksAndSigns();
        digits();
        signsOfTwo();
        numbers();
        without();
        howMany();
        deeds();
        open();
        knots();
        toldAlready();
        notToldAhead();
        firstAndLeast();
        cutAnywhere();
        named();
        Due.end("TextEdgesTest");
    }
}
