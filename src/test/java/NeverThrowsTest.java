import java.util.Random;

/** Any arguments in any state: nothing is thrown but what the document says, and every call ends. */
public final class NeverThrowsTest {
    private static final int[] ODD = {Integer.MIN_VALUE, Integer.MIN_VALUE + 1, -1000, -3, -2, -1, 0, 1, 2, 3, 4, 5, 6, 7,
        8, 9, 10, 11, 12, 20, 40, 41, 59, 60, 61, 99, 100, 101, 255, 699, 700, 701, 999, 1000, 65535, Integer.MAX_VALUE - 1,
        Integer.MAX_VALUE};
    private static final String FULL = "sin a 9;sin b 99;sin c 0;sin d 9;person p 50 did a 9 did b 2;person q 0 did d 1;"
        + "person r 100 did a 1;person s 7 did c 3;person t 99;cake u 9 9 9;cake v 0 99 0;cake w 500 1 50;cake x 1 5 1;"
        + "cake y 999 3 99;grain 9999;grist 1;seed 7;law grind worth * 9 - worn / (times - 3) + lie;law wear day;"
        + "law want worth + pride - day;law pair worth / times;may k worth;may l 1 / 0;may m worth * 9;";

    private final Random random;

    private NeverThrowsTest(long seed) {
        random = new Random(seed);
    }

    private int odd() {
        return random.nextInt(3) == 0 ? ODD[random.nextInt(ODD.length)] : random.nextInt(7) - 1;
    }

    private long call(ConfessionMill mill, int which) {
        switch (which) {
            case 0: return mill.feed(odd(), random.nextInt(), odd(), random.nextInt(), odd());
            case 1: return random.nextInt(20) == 0 ? mill.text(odd()) : 0;
            case 2: return mill.fault(odd());
            case 3: return mill.named(odd(), odd());
            case 4: return Due.look(mill, odd(), odd());
            case 5: return mill.did(odd(), odd(), odd());
            case 6: return mill.fine(odd(), odd());
            case 7: return mill.law(odd(), odd(), odd());
            case 8: return mill.confess(odd(), odd());
            case 9: return mill.ask(odd());
            case 10: return mill.fall(odd(), odd());
            case 11: return mill.sack(odd(), odd());
            case 12: return mill.flour(odd());
            case 13: return mill.bake(odd()) ? 1 : 0;
            case 14: return mill.baked(odd());
            case 15: return mill.days(odd());
            case 16: return random.nextInt(4) == 0 ? mill.plan(odd(), odd()) : 0;
            case 17: return random.nextInt(4) == 0 ? mill.planned(odd(), odd(), odd()) : 0;
            case 18: return mill.crumb(odd(), odd());
            case 19: return mill.run(odd(), odd());
            case 20: return mill.tried(odd(), odd(), odd(), odd());
            case 21: return mill.mills(odd(), random.nextInt(), odd());
            case 22: return mill.pairs();
            case 23: return mill.paired(odd());
            case 24: return mill.lies(odd(), odd(), odd());
            case 25: return mill.known(odd()) ? 1 : 0;
            case 26: return mill.fits();
            case 27: return mill.undo();
            case 28: return mill.keep();
            case 29: return mill.back();
            default: return mill.count(odd());
        }
    }

    private void go() {
        ConfessionMill mill = random.nextInt(8) == 0 ? new ConfessionMill() : Due.mill(FULL);
        int which = -1;
        try {
            for (int k = 0; k < 500; k++) {
                which = random.nextInt(31);
                call(mill, which);
            }
        } catch (RuntimeException e) {
            e.printStackTrace(System.out);
            Due.due("call " + which + " threw", 1, 0);
        }
        Due.due("a run", 0, 0);
    }

    private void anyBytes() {
        ConfessionMill mill = new ConfessionMill();
        String signs = "sinlawmaypersondidcake grind wear or and not 0123456789;;;()+-*/<=>\n  ";
        StringBuilder text = new StringBuilder();
        int length = random.nextInt(700);
        for (int k = 0; k < length; k++) {
            text.append(random.nextInt(50) == 0 ? (char) random.nextInt(256) : signs.charAt(random.nextInt(signs.length())));
        }
        try {
            Due.tell(mill, text.toString());
            Due.due("fault's place", mill.fault(1) <= length ? 0 : 1, 0);
        } catch (RuntimeException e) {
            e.printStackTrace(System.out);
            Due.due("text threw", 1, 0);
        }
    }

    /** All that a full tape can hold of one token. */
    private static void fullTapes() {
        for (String part : new String[] {";", "(", ")", "a", "9", "<", " ", "\n", "not ", "law wear not ", "(1)+", "sin a 1;", "\u00ff"}) {
            for (String ahead : new String[] {"", "law wear ", "may m 1+", "sin "}) {
                StringBuilder text = new StringBuilder(ahead);
                while (text.length() + part.length() <= 700) {
                    text.append(part);
                }
                ConfessionMill mill = new ConfessionMill();
                Due.due("full tape of " + ahead + part, Due.tell(mill, text.toString()) >= -1 ? 0 : 1, 0);
            }
        }
    }

    public static void main(String[] args) {
        for (long seed = 1; seed <= 300; seed++) {
            new NeverThrowsTest(seed).go();
            for (int k = 0; k < 20; k++) {
                new NeverThrowsTest(seed * 100 + k).anyBytes();
            }
        }
        fullTapes();
        Due.end("NeverThrowsTest");
    }
}
