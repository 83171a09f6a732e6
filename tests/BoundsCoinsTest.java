/** Promises 26 to 32, sentence by sentence: what is just within a bound, just beyond it, empty, full. */
public final class BoundsCoinsTest {
    public static void main(String[] args) throws Exception {
        Words.of(args[0]);
        person();
        line();
        blind();
        saved();
        few();
        fewOfEqualOnes();
        truly();
        trulyTold();
        level();
        levelOfEqualOnes();
        Words.allOf(26, 32);
        Due.end();
    }

    /** DAYS of AIR 500, SKY 0, a GLASS, a PERSON, and these SIGNS. */
    private static HallGlass days(String weathers, int cost, int loss, int still, String... signs) {
        HallGlass x = new HallGlass();
        x.glass(0, 0, 0);
        for (int d = 0; d < weathers.length(); d++) {
            x.day(weathers.charAt(d) - '0', 500, 0);
        }
        x.person(cost, loss, still);
        for (String s : signs) {
            Due.omen(x, 0, s);
        }
        return x;
    }

    /** A call on PERSON 0 of three; its EVENT is told at two places. */
    private static void refused(Object due, String name, Object[] right, int c) {
        Twin.bounds(due, name, right, 0, 0, 2);
        Twin.bounds(due, name, right, c, 1, 3);
        Twin.bounds(due, name, right, c + 1, 1, 9);
    }

    private static void person() {
        Words.test(26, "A PERSON: its number.", () -> {
            HallGlass x = new HallGlass();
            Due.is("the least", x.person(0, 0, 0), 0);
            Due.is("the greatest", x.person(99, 999, 999), 1);
            Due.is("STILL above LOSS", x.person(5, 0, 999), 2);
            Due.is("count(3)", x.count(3), 3);
        });
        Words.test(26, "Refused: others, 6.", () -> {
            Object[] right = Twin.args(5, 10, 1);
            Twin.bounds(-1, "person", right, 0, 0, 99);
            Twin.bounds(-1, "person", right, 1, 0, 999);
            Twin.bounds(-1, "person", right, 2, 0, 999);
            Twin.refuses(Twin::full, -1, "person", 5, 10, 1);
            HallGlass x = new HallGlass();
            for (int i = 0; i < 6; i++) {
                Due.is("person " + i, x.person(5, 10, 1), i);
            }
            Due.is("one more", x.person(5, 10, 1), -1);
        });
    }

    private static void checkLine(int cost, int loss, int still, int upper, int lower) {
        HallGlass x = new HallGlass();
        x.person(cost, loss, still);
        Due.is("line of " + cost + ", " + loss + ", " + still, x, x.line(0), 0, upper, lower);
    }

    private static void line() {
        Words.test(27, "The CHANCE of an EVENT above which a PERSON should ACT: 0; the ROW: COST by (LOSS less STILL).", () -> {
            checkLine(3, 10, 0, 3, 10);
            checkLine(3, 10, 1, 1, 3);
            checkLine(0, 1, 0, 0, 1);
            checkLine(0, 999, 0, 0, 1);
            checkLine(99, 999, 0, 11, 111);
            checkLine(99, 999, 998, 99, 1);
            checkLine(1, 1, 0, 1, 1);
            checkLine(99, 1, 0, 99, 1);
        });
        Words.test(27, "-2: LOSS is not above STILL: never;", () -> {
            int[][] never = {{0, 0, 0}, {5, 7, 7}, {5, 7, 8}, {5, 0, 999}, {99, 999, 999}};
            for (int[] n : never) {
                HallGlass x = new HallGlass();
                x.person(n[0], n[1], n[2]);
                x.hedge(70, 1);
                Due.is("line of " + n[0] + ", " + n[1] + ", " + n[2], x, x.line(0), -2, 3000, 4200);
            }
            HallGlass x = new HallGlass();
            x.person(5, 8, 7);
            Due.is("LOSS is one above", x, x.line(0), 0, 5, 1);
            Twin.refuses(() -> days("0101", 5, 7, 7), -2, "line", 0);
        });
        Words.test(27, "NONE: none such.", () -> {
            Twin.bounds(-1, "line", Twin.args(0), 0, 0, 2);
            Twin.refuses(Twin::full, -1, "line", 6);
            Due.is("no PERSON at all", new HallGlass().line(0), -1);
        });
    }

    private static void blind() {
        Words.test(28, "BLIND's COINS; the ROW: 1 if it always ACTS, else 0.", () -> {
            // 4 KNOWN DAYS, the EVENT (1, 1) comes behind two
            HallGlass x = days("01010", 3, 6, 0);
            Due.is("12 or 12", x, x.blind(0, 1, 1), 12, 0);
            x = days("01010", 3, 7, 0);
            Due.is("12 or 14", x, x.blind(0, 1, 1), 12, 1);
            x = days("01010", 3, 7, 1);
            Due.is("14 or 14", x, x.blind(0, 1, 1), 14, 0);
            x = days("01010", 0, 0, 0);
            Due.is("0 or 0", x, x.blind(0, 1, 1), 0, 0);
            x = days("", 1, 9, 0);
            Due.is("without DAYS", x, x.blind(0, 1, 1), 0, 0);
            x = days("3", 1, 9, 0);
            Due.is("of one DAY", x, x.blind(0, 1, 1), 0, 0);
            x = days("3".repeat(240), 99, 999, 0);
            Due.is("of 240", x, x.blind(0, 3, 1), 239 * 99, 1);
            x = days("3".repeat(240), 99, 999, 999);
            Due.is("of 240, never", x, x.blind(0, 3, 9), 231 * 999, 0);
        });
        Words.test(28, "NONE: others.", () -> {
            refused(-1, "blind", Twin.args(0, 2, 1), 1);
            Twin.refuses(Twin::full, -1, "blind", 6, 2, 1);
            Due.is("no PERSON at all", Due.week().blind(0, 2, 1), -1);
        });
    }

    private static void saved() {
        Words.test(29, "SAVED BY SIGNS told as bits (one at least);", () -> {
            HallGlass x = days("010001000", 1, 4, 0, "d=0", "d=4", "d>5");
            // 8 KNOWN DAYS, it comes behind 0 and 4: BLIND 8 (to ACT and not)
            int[] due = {3, 3, 6, 2, 3, 3, 6};
            for (int bits = 1; bits <= 7; bits++) {
                Due.is("bits " + bits, x.saved(0, bits, 1, 1), due[bits - 1]);
            }
            Due.is("no KNOWN DAYS", x.saved(0, 7, 1, 9), 0);
            Due.is("none told", x.saved(0, 0, 1, 1), -1);
        });
        Words.test(29, "the ROW: COINS, how many unlike sets of them STOOD.", () -> {
            HallGlass x = days("010001000", 1, 4, 0, "d=0", "d=4", "d>3", "1", "0", "d=8");
            Due.is("it STOOD, or not", x, x.saved(0, 1, 1, 1), 3, 5, 2);
            Due.is("both of them and one alone, too", x, x.saved(0, 6, 1, 1), 3, 5, 3);
            Due.is("always", x, x.saved(0, 8, 1, 1), 0, 8, 1);
            Due.is("never", x, x.saved(0, 16, 1, 1), 0, 8, 1);
            Due.is("not on a KNOWN DAY", x, x.saved(0, 32, 1, 1), 0, 8, 1);
            Due.is("no KNOWN DAYS", x, x.saved(0, 63, 1, 9), 0, 0, 0);
            HallGlass y = new HallGlass();
            y.glass(0, 0, 0);
            for (int d = 0; d < 240; d++) {
                y.day(d >> 3 & 3, 500, d & 7);
            }
            y.person(5, 6, 0);
            String[] bits = {"k=1|k=3|k=5|k=7", "k=2|k=3|k=6|k=7", "k>3", "t=1|t=3", "t>1",
                "d>31&d<64|d>95&d<128|d>159&d<192|d>223", "d>63&d<128|d>191", "d>127"};
            for (String s : bits) {
                Due.is("omen of " + s, Due.omen(y, 0, s) >= 0, true);
            }
            // a set for each DAY; of 239 DAYS those bring 3 whose next has the bits 3 and 4
            Due.is("as many sets as DAYS", y, y.saved(0, 255, 3, 1), 56, 280, 239);
            Due.omen(y, 0, "1");
            Due.omen(y, 0, "0");
            Due.is("by ten", y, y.saved(0, 1023, 3, 1), 56, 280, 239);
            Due.is("by the last of ten", y, y.saved(0, 512, 3, 1), 0, 336, 1);
        });
        Words.test(29, "NONE: others.", () -> {
            refused(-1, "saved", Twin.args(0, 5, 2, 1), 2);
            Twin.bounds(-1, "saved", Twin.args(0, 5, 2, 1), 1, 1, 7);
            Twin.refuses(Twin::full, -1, "saved", 0, 1024, 2, 1);
            Twin.refuses(Twin::full, -1, "saved", 0, 0, 2, 1);
            HallGlass x = days("0101", 1, 4, 0);
            Due.is("no SIGN at all", x.saved(0, 1, 1, 1), -1);
            Due.is("no SIGN at all, none told", x.saved(0, 0, 1, 1), -1);
        });
    }

    private static void few() {
        Words.test(30, "The set of 1 to m SIGNS (m 1 .. 3) with the greatest SAVED less a price (0 .. 999) each;", () -> {
            // the EVENT (2, 1) comes behind DAYS 0, 3, 7 of 8: never is 30; each of the SIGNS saves 6
            HallGlass x = days("020130012", 4, 10, 0, "0", "d=7", "d=3", "d=0");
            Due.is("m 1, price 5", x, x.few(0, 1, 5, 2, 1), 1, 2);
            Due.is("m 2, price 5", x, x.few(0, 2, 5, 2, 1), 2, 6);
            Due.is("m 3, price 5", x, x.few(0, 3, 5, 2, 1), 3, 14);
            Due.is("m 3, price 0", x, x.few(0, 3, 0, 2, 1), 18, 14);
            Due.is("m 3, price 7: one at least", x, x.few(0, 3, 7, 2, 1), -1, 2);
            Due.is("m 3, price 999", x, x.few(0, 3, 999, 2, 1), -993, 2);
            Due.is("m 1, price 999", x, x.few(0, 1, 999, 2, 1), -993, 2);
            HallGlass y = days("020130012", 4, 10, 0, "d=3");
            Due.is("m 3 of one SIGN", y, y.few(0, 3, 1, 2, 1), 5, 1);
            HallGlass z = days("020130012", 4, 10, 0, "0", "0", "0", "0", "0", "0", "0", "d=0", "d=3", "d=7");
            Due.is("m 3 of ten", z, z.few(0, 3, 1, 2, 1), 15, 896);
            Due.is("m 1 of ten", z, z.few(0, 1, 1, 2, 1), 5, 128);
            Due.is("no KNOWN DAYS", z, z.few(0, 3, 2, 2, 9), -2, 1);
        });
    }

    private static void fewOfEqualOnes() {
        Words.test(30, "of equal ones the fewest, then the least bits: that; the ROW: the set.", () -> {
            HallGlass x = days("020130012", 4, 10, 0, "0", "d=7", "d=3", "d=0", "d=3");
            Due.is("one, two, three alike: one", x, x.few(0, 3, 6, 2, 1), 0, 2);
            Due.is("of those of one the least bits", x, x.few(0, 1, 0, 2, 1), 6, 2);
            Due.is("of those of two the least bits", x, x.few(0, 2, 0, 2, 1), 12, 6);
            HallGlass y = days("020130012", 4, 10, 0, "d=7", "d=3", "d=7|d=3");
            // both together save 12, as the third alone does, which has greater bits
            Due.is("the fewest ahead of the least bits", y, y.few(0, 3, 0, 2, 1), 12, 4);
            Due.is("the fewest ahead of the least bits, m 2", y, y.few(0, 2, 0, 2, 1), 12, 4);
            HallGlass z = days("020130012", 4, 10, 0, "d=7", "d=3", "0", "d=7|d=0");
            // 1, 2 and 4 save 12 for two, 8 and 2 save 18
            Due.is("more SAVED ahead of fewer bits", z, z.few(0, 2, 0, 2, 1), 18, 10);
        });
        Words.test(30, "NONE: others, no SIGNS.", () -> {
            Object[] right = Twin.args(0, 2, 5, 2, 1);
            refused(-1, "few", right, 3);
            Twin.bounds(-1, "few", right, 1, 1, 3);
            Twin.bounds(-1, "few", right, 2, 0, 999);
            Twin.refuses(Twin::full, -1, "few", 6, 2, 5, 2, 1);
            Twin.refuses(() -> days("0101", 1, 4, 0), -1, "few", 0, 1, 0, 1, 1);
        });
    }

    private static void truly() {
        Words.test(31, "Learnt on the first half of KNOWN DAYS (cut), tried on the others:"
                + " what BLIND and BY SIGNS do is chosen by the first half alone", () -> {
            HallGlass x = days("0", 1, 3, 0, "1");
            Due.is("no KNOWN DAYS", x, x.truly(0, 1, 1, 1), 0, 0, 0);
            x = days("01", 1, 3, 0, "1");
            Due.is("one, learnt on none", x, x.truly(0, 1, 1, 1), 0, 3, 3);
            x = days("011", 1, 3, 0, "1");
            Due.is("two, learnt on one", x, x.truly(0, 1, 1, 1), 0, 1, 1);
            x = days("0100", 1, 3, 0, "1");
            // learnt on DAY 0 alone: ACT; on DAYS 1, 2 in vain
            Due.is("three, learnt on one", x, x.truly(0, 1, 1, 1), 0, 2, 2);
            x = days("00011", 1, 3, 0, "d=1|d=3");
            // learnt on DAYS 0, 1: never; it comes behind DAYS 2, 3
            Due.is("four, learnt on two", x, x.truly(0, 1, 1, 1), 0, 6, 6);
            x = days("00111", 1, 3, 0, "d=1|d=3");
            // BLIND: 2 to ACT, 3 not; by the sign it ACTS on DAY 3, not on 2
            Due.is("four, by the sign on one", x, x.truly(0, 1, 1, 1), -2, 2, 4);
            x = days("01010", 1, 2, 0, "d=0|d=2");
            // BLIND: 2 or 2: never; by the sign it ACTS on DAY 2 as on 0
            Due.is("of equal ones never", x, x.truly(0, 1, 1, 1), 1, 2, 1);
            x = days("0".repeat(120) + "1".repeat(120), 1, 3, 0, "1");
            // 239 KNOWN DAYS: learnt on 119, never; it comes behind all of the 120 others
            Due.is("of 240 DAYS", x, x.truly(0, 1, 1, 1), 0, 360, 360);
        });
        Words.test(31, "(a set of SIGNS that did not STAND there: as BLIND does);", () -> {
            HallGlass x = days("01100", 1, 3, 0, "d=2", "d=3", "d>1");
            // BLIND ACTS; on DAY 2, 3 it does not come: each ACTS in vain, told unseen
            for (int bits = 1; bits <= 7; bits++) {
                Due.is("bits " + bits, x, x.truly(0, bits, 1, 1), 0, 2, 2);
            }
            x = days("00000", 1, 3, 0, "d=2", "d=3");
            Due.is("BLIND does not", x, x.truly(0, 3, 1, 1), 0, 0, 0);
            x = days("01011", 1, 3, 0, "d=1", "d=3");
            // learnt: none STANDS on 0: ACT; the first on 1: not; BLIND ACTS. On 2: ACT, on 3 the second alone: unseen, ACT
            Due.is("a set that is new", x, x.truly(0, 3, 1, 1), 0, 2, 2);
            Due.is("again: nothing is left of what was learnt", x, x.truly(0, 3, 1, 1), 0, 2, 2);
            HallGlass y = days("0110100100", 3, 7, 1, "d<3", "d=1|d=5|d=6");
            // learnt on 0 .. 3: it comes behind 0, 1, 3; tried on 4 .. 8: behind 6 alone
            for (int i = 0; i < 3; i++) {
                Due.is("nothing is left of what was learnt", y, y.truly(0, 3, 1, 1), 0, 16, 16);
                Due.is("nothing is left for saved()", y, y.saved(0, 3, 1, 1), 3, 25, 4);
            }
            x = days("01011", 1, 3, 0, "d=1|d=3", "d=3");
            Due.is("of one that is known and a new one", x, x.truly(0, 3, 1, 1), 0, 2, 2);
            Due.is("of the known one alone", x, x.truly(0, 1, 1, 1), -2, 2, 4);
        });
    }

    private static void trulyTold() {
        Words.test(31, "the ROW: COINS of both on the other half.", () -> {
            HallGlass x = days("0111010", 2, 9, 1, "d=0|d=1|d=4");
            // 6 KNOWN DAYS; it comes behind 0, 1, 2; 4. Learnt: ACT always; on 3, 4, 5: 2 + 3 + 2
            Due.is("STILL, too", x, x.truly(0, 1, 1, 1), 0, 7, 7);
            x = days("0100010", 2, 9, 1, "d=0|d=4");
            // learnt: BLIND 7 or 9: ACT, and BY SIGNS on 4 alone: 7 and 3
            Due.is("the COINS of each", x, x.truly(0, 1, 1, 1), 4, 7, 3);
        });
        Words.test(31, "What is SAVED there (below 0 it may be, told as it is).", () -> {
            HallGlass x = days("01000", 1, 2, 0, "d=0|d=3");
            Due.is("-1", x, x.truly(0, 1, 1, 1), -1, 0, 1);
            x = days("01000", 2, 3, 0, "d=0|d=3");
            Due.is("-2", x, x.truly(0, 1, 1, 1), -2, 0, 2);
            x = days("01000", 99, 198, 0, "d=0|d=3");
            Due.is("-99", x, x.truly(0, 1, 1, 1), -99, 0, 99);
            x = days("01000", 99, 198, 0, "d=0");
            Due.is("0", x, x.truly(0, 1, 1, 1), 0, 0, 0);
            Due.is("saved() is of all KNOWN DAYS", x, x.saved(0, 1, 1, 1), 99, 99, 2);
        });
        Words.test(31, "NoSuchElementException: others.", () -> {
            Object[] right = Twin.args(0, 5, 2, 1);
            refused(Twin.THROWS, "truly", right, 2);
            Twin.bounds(Twin.THROWS, "truly", right, 1, 1, 7);
            Twin.refuses(Twin::full, Twin.THROWS, "truly", 0, 1024, 2, 1);
            Twin.refuses(Twin::full, Twin.THROWS, "truly", 6, 1, 2, 1);
            Twin.refuses(() -> days("0101", 1, 4, 0), Twin.THROWS, "truly", 0, 1, 1, 1);
        });
    }

    private static HallGlass airs(String weathers, int cost, int loss, int still, int... airs) {
        HallGlass x = new HallGlass();
        x.glass(0, 0, 0);
        for (int d = 0; d < airs.length; d++) {
            x.day(weathers.charAt(d) - '0', airs[d], 0);
        }
        x.person(cost, loss, still);
        return x;
    }

    private static void level() {
        Words.test(32, "The best line of a GLASS for a PERSON: it ACTS, if SHOWN is v or less (what 0), if the fall (as f) is v or more (1):", () -> {
            // it comes behind DAYS 1 and 3
            HallGlass x = airs("00101", 1, 10, 0, 500, 480, 490, 480, 500);
            Due.is("480 or less", x, x.level(0, 0, 0, 1, 1), 2, 480, 2);
            Due.is("a fall of 10 or more", x, x.level(0, 0, 1, 1, 1), 2, 10, 2);
            x = airs("00101", 1, 10, 0, 500, 480, 490, 481, 500);
            Due.is("481 or less", x, x.level(0, 0, 0, 1, 1), 2, 481, 2);
            Due.is("a fall of 9 or more", x, x.level(0, 0, 1, 1, 1), 2, 9, 2);
            x.glass(300, -50, 0);
            Due.is("of a GLASS that shows 350 less", x, x.level(0, 1, 0, 1, 1), 2, 131, 2);
            Due.is("a fall is as much by it", x, x.level(0, 1, 1, 1, 1), 2, 9, 2);
            x.glass(0, 0, 15);
            x.tap(2, false);
            // it shows 500, 480, 480, 480, 500
            Due.is("of one that sticks, which shows 480 on 2, too", x, x.level(0, 2, 0, 1, 1), 1, 480, 3);
            x = airs("0101", 1, 10, 0, 500, 490, 480, 470);
            Due.is("a fall of DAY 0 is 0: all ACT", x, x.level(0, 0, 1, 1, 1), 0, 0, 3);
            x = airs("0101", 1, 10, 0, 0, 0, 0, 0);
            Due.is("AIR 0 on all", x, x.level(0, 0, 0, 1, 1), 0, 0, 3);
        });
        Words.test(32, "v of those that came on KNOWN DAYS, or never: SAVED;", () -> {
            // falls 0, 20, -20, 10; the DAY of the last one is not KNOWN
            HallGlass x = airs("0010", 1, 10, 0, 500, 480, 500, 490);
            Due.is("20 came, 10 not", x, x.level(0, 0, 1, 1, 1), 2, 20, 1);
            Due.is("480", x, x.level(0, 0, 0, 1, 1), 2, 480, 1);
            x = airs("0000", 1, 10, 0, 500, 480, 500, 490);
            Due.is("never", x, x.level(0, 0, 0, 1, 1), 0, 9999, 0);
            x = airs("", 1, 10, 0);
            Due.is("without DAYS", x, x.level(0, 0, 0, 1, 1), 0, 9999, 0);
            x = airs("1", 1, 10, 0, 500);
            Due.is("no KNOWN DAYS", x, x.level(0, 0, 1, 1, 1), 0, 9999, 0);
            x = airs("11", 1, 10, 0, 500, 400);
            Due.is("one KNOWN DAY", x, x.level(0, 0, 0, 1, 1), 0, 500, 1);
            Due.is("one KNOWN DAY, its fall", x, x.level(0, 0, 1, 1, 1), 0, 0, 1);
            x = airs("1111", 0, 10, 0, 500, 999, 0, 100);
            Due.is("all ACT: the greatest", x, x.level(0, 0, 0, 1, 1), 0, 999, 0);
            Due.is("all ACT: the least fall", x, x.level(0, 0, 1, 1, 1), 0, -499, 0);
        });
    }

    private static void levelOfEqualOnes() {
        Words.test(32, "the ROW: v (of equal ones never, told as 9999, then the least v), COINS.", () -> {
            HallGlass x = airs("0100", 10, 10, 0, 480, 500, 500, 500);
            Due.is("to ACT on DAY 0 costs as much", x, x.level(0, 0, 0, 1, 1), 0, 9999, 10);
            x = airs("0100", 9, 10, 0, 480, 500, 500, 500);
            Due.is("it costs one less", x, x.level(0, 0, 0, 1, 1), 1, 480, 9);
            // on 480 once, it comes; on 490 twice, it comes once: to ACT there is 10 or 10
            x = airs("011000", 5, 10, 0, 480, 490, 490, 500, 500, 500);
            Due.is("480 or 490: the least", x, x.level(0, 0, 0, 1, 1), 5, 480, 15);
            // falls 0, 20, 10, 10, -60: it comes behind the 20 and one of the 10
            x = airs("0011000", 5, 10, 0, 500, 480, 470, 460, 520, 580, 640);
            Due.is("falls of 20 or 10: the least", x, x.level(0, 0, 1, 1, 1), 5, 10, 15);
            x = airs("0100", 0, 0, 0, 480, 500, 500, 500);
            Due.is("all cost nothing", x, x.level(0, 0, 0, 1, 1), 0, 9999, 0);
            x = airs("0111", 1, 10, 5, 480, 490, 500, 510);
            Due.is("STILL, too", x, x.level(0, 0, 0, 1, 1), 0, 500, 18);
        });
        Words.test(32, "NONE: others.", () -> {
            Object[] right = Twin.args(0, 1, 1, 2, 1);
            refused(-1, "level", right, 3);
            Twin.bounds(-1, "level", right, 1, 0, 2);
            Twin.bounds(-1, "level", right, 2, 0, 1);
            Twin.refuses(Twin::full, -1, "level", 6, 0, 0, 2, 1);
            Twin.refuses(Twin::full, -1, "level", 0, 4, 0, 2, 1);
            HallGlass x = new HallGlass();
            x.person(1, 1, 1);
            Due.is("no GLASS at all", x.level(0, 0, 0, 1, 1), -1);
        });
    }
}
