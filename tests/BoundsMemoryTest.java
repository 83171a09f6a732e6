/** Promises 33 to 41, sentence by sentence: what is just within a bound, just beyond it, empty, full. */
public final class BoundsMemoryTest {
    public static void main(String[] args) throws Exception {
        Words.of(args[0]);
        remember();
        rememberTold();
        drum();
        drumTold();
        cry();
        mow();
        mowTold();
        fields();
        start();
        listen();
        village();
        first();
        Words.allOf(33, 41);
        Due.end();
    }

    /** DAYS of AIR 500, SKY 0, a GLASS, a PERSON of COST 3, LOSS 10, STILL 1, and these SIGNS. */
    private static HallGlass days(String weathers, String... signs) {
        HallGlass x = new HallGlass();
        x.glass(0, 0, 0);
        for (int d = 0; d < weathers.length(); d++) {
            x.day(weathers.charAt(d) - '0', 500, 0);
        }
        x.person(3, 10, 1);
        for (String s : signs) {
            Due.omen(x, 0, s);
        }
        return x;
    }

    // ---- memory

    private static void remember() {
        Words.test(33, "DAY by DAY (KNOWN ones by k 1) a PERSON ACTS, if the SIGN STANDS,", () -> {
            HallGlass x = days("01010", "d=0|d=2", "0");
            Due.is("on DAY 2, as it came behind 0", x, x.remember(0, 0, 1, 1), 10 + 4, 1, 0, 1);
            Due.is("it STANDS never", x, x.remember(0, 1, 1, 1), 20, 0, 0, 2);
            x.day(1, 500, 0);
            Due.is("a DAY more is KNOWN", x, x.remember(0, 0, 1, 1), 24, 1, 0, 2);
            Due.omen(x, 0, "d=0|d=1");
            Due.is("the SIGN that is told", x, x.remember(0, 2, 1, 1), 33, 1, 1, 3);
            x.start(0, 200);
            Due.is("from DAY 0 on, whenever it began to look", x, x.remember(0, 2, 1, 1), 33, 1, 1, 3);
            Due.is("without DAYS", days("", "1").remember(0, 0, 1, 1), 0);
            Due.is("of one DAY", days("3", "1").remember(0, 0, 1, 1), 0);
            HallGlass y = days("3".repeat(240), "1");
            Due.is("of 240", y, y.remember(0, 0, 20, 3), 10 + 238 * 4, 238, 0, 1);
        });
        Words.test(33, "and of the latest m times (1 .. 20; fewer, if there were fewer; none: it does not) that it STOOD,", () -> {
            HallGlass x = days("11", "1");
            Due.is("none: it does not", x, x.remember(0, 0, 20, 1), 10, 0, 0, 1);
            x = days("011", "1");
            Due.is("one, m 20: it does", x, x.remember(0, 0, 20, 1), 10 + 4, 1, 0, 1);
            // it came behind DAY 0, then never: 9 times 1 is above 3 times 1 and 2, not 3 times 3
            x = days("01" + "0".repeat(28), "1");
            Due.is("m 1", x, x.remember(0, 0, 1, 1), 10 + 3, 1, 1, 1);
            Due.is("m 2", x, x.remember(0, 0, 2, 1), 10 + 3 + 3, 2, 2, 1);
            Due.is("m 3", x, x.remember(0, 0, 3, 1), 10 + 3 + 3, 2, 2, 1);
            // it never came for 5 DAYS, then always: of the latest 20 and of 5 more or less
            x = days("000000" + "1".repeat(30), "1");
            // times 5 + n, came n: 9n above 3(5 + n) from n 3 on, so it ACTS from DAY 8 on: 27 of 35
            Due.is("m 20", x, x.remember(0, 0, 20, 1), 30 + 27 * 4, 27, 0, 3);
            // of the latest 3: came 2 of 3 is above: from DAY 7 on
            Due.is("m 3, later", x, x.remember(0, 0, 3, 1), 20 + 28 * 4, 28, 0, 2);
            // 13 times it came, then it did not: of the latest 20, 7 and more must have come
            x = days("0" + "1".repeat(13) + "0".repeat(40), "1");
            // it ACTS on DAYS 1 .. 12, and on those with 7 at least of the latest 20: up to DAY 26
            Due.is("m 20, forgotten", x, x.remember(0, 0, 20, 1), 10 + 12 * 4 + 14 * 3, 26, 14, 1);
            Due.is("m 19, forgotten", x, x.remember(0, 0, 19, 1), 10 + 12 * 4 + 13 * 3, 25, 13, 1);
        });
        Words.test(33, "EVENTS (c, 1) that came times (LOSS less STILL) are above COST times how many times:", () -> {
            HallGlass x = days("0100", "1");
            x.person(9, 10, 1);
            x.person(8, 10, 1);
            x.person(0, 10, 10);
            x.person(0, 10, 9);
            Due.is("9 is not above 9", x, x.remember(1, 0, 1, 1), 10, 0, 0, 1);
            Due.is("9 is above 8", x, x.remember(2, 0, 1, 1), 18, 1, 1, 1);
            Due.is("0 is not above 0", x, x.remember(3, 0, 1, 1), 10, 0, 0, 1);
            Due.is("1 is above 0", x, x.remember(4, 0, 1, 1), 10, 1, 1, 1);
            HallGlass y = days("0200", "1");
            Due.is("c 2 came", y, y.remember(0, 0, 1, 2), 13, 1, 1, 1);
            Due.is("c 3 did not", y, y.remember(0, 0, 1, 3), 0, 0, 0, 0);
            Due.is("c 1 came", y, y.remember(0, 0, 1, 1), 13, 1, 1, 1);
        });
    }

    private static void rememberTold() {
        Words.test(33, "its COINS; the ROW: DAYS it ACTED, of these in vain, EVENTS without.", () -> {
            HallGlass x = days("01011010", "1");
            // it came behind 0, 2, 3, 5 of 0 .. 6; m 1: it ACTS on 1, 3, 4, 6: 1, 4, 6 in vain; without on 0, 2, 5
            Due.is("m 1", x, x.remember(0, 0, 1, 1), 30 + 9 + 4, 4, 3, 3);
            HallGlass y = days("3", "1");
            Due.is("no KNOWN DAYS", y, y.remember(0, 0, 1, 1), 0, 0, 0, 0);
        });
        Words.test(33, "NONE: others.", () -> {
            Object[] right = Twin.args(0, 0, 3, 2);
            Twin.bounds(-1, "remember", right, 0, 0, 2);
            Twin.bounds(-1, "remember", right, 1, 0, 2);
            Twin.bounds(-1, "remember", right, 2, 1, 20);
            Twin.bounds(-1, "remember", right, 3, 1, 3);
            Twin.refuses(Twin::full, -1, "remember", 6, 0, 1, 1);
            Twin.refuses(Twin::full, -1, "remember", 0, 10, 1, 1);
            Due.is("no SIGN at all", days("0101").remember(0, 0, 1, 1), -1);
        });
    }

    // ---- drums

    private static void drum() {
        Words.test(34, "A drum is hoisted on each KNOWN DAY (k 1) on which a SIGN STANDS;", () -> {
            HallGlass x = days("0101", "1", "d=3", "0", "d=1|d=2");
            Due.is("on all three", x, x.drum(0, 1, 20, 0), -2, 3, 1, 0);
            Due.is("on two of them", x, x.drum(3, 1, 20, 0), -2, 2, 1, 0);
            Due.is("not on the last DAY", x, x.drum(1, 1, 20, 0), -2, 0, 0, 0);
            Due.is("never", x, x.drum(2, 1, 1, 1), -2, 0, 0, 0);
            HallGlass y = days("", "1");
            Due.is("without DAYS", y, y.drum(0, 1, 1, 1), -2, 0, 0, 0);
            HallGlass z = days("0".repeat(240), "1");
            Due.is("of 240", z, z.drum(0, 1, 1, 0), -2, 239, 239, 0);
        });
        Words.test(34, "it is HEEDED, if there were fewer than m hoistings ahead (1 .. 20),", () -> {
            // it never comes: the drum is not HEEDED from the first DAY on with m hoistings ahead
            for (int m = 1; m <= 20; m++) {
                HallGlass x = days("0".repeat(25), "1");
                Due.is("m " + m, x, x.drum(0, 1, m, 1), m, 24, 24, 0);
                HallGlass y = days("0".repeat(m + 1), "1");
                Due.is("m hoistings, m " + m, y, y.drum(0, 1, m, m), -2, m, m, 0);
                y.day(0, 500, 0);
                Due.is("one more, m " + m, y, y.drum(0, 1, m, m), m, m + 1, m + 1, 0);
            }
        });
        Words.test(34, "or of the latest m q at least (0 .. m) were followed by the EVENT (c, 1):", () -> {
            // it comes behind DAYS 0, 1; then not
            HallGlass x = days("0110000", "1");
            Due.is("q 0", x, x.drum(0, 1, 2, 0), -2, 6, 4, 0);
            Due.is("q 1: of DAYS 2, 3 none", x, x.drum(0, 1, 2, 1), 4, 6, 4, 0);
            Due.is("q 2: of DAYS 1, 2 one", x, x.drum(0, 1, 2, 2), 3, 6, 4, 0);
            Due.is("m 1, q 1: not DAY 2", x, x.drum(0, 1, 1, 1), 3, 6, 4, 0);
            Due.is("m 4, q 1: DAY 1 is forgotten", x, x.drum(0, 1, 4, 1), -2, 6, 4, 0);
            x.day(0, 500, 0);
            Due.is("m 4, q 1: on DAY 6", x, x.drum(0, 1, 4, 1), 6, 7, 5, 0);
            HallGlass y = days("0220", "1");
            Due.is("c 2", y, y.drum(0, 2, 1, 1), -2, 3, 1, 0);
            Due.is("c 3", y, y.drum(0, 3, 1, 1), 1, 3, 3, 0);
            HallGlass z = days("0" + "1".repeat(30), "1");
            Due.is("m 20, q 20, followed each time", z, z.drum(0, 1, 20, 20), -2, 30, 0, 0);
            HallGlass w = days("0" + "1".repeat(10) + "0" + "1".repeat(20), "1");
            // DAY 10 was in vain, which is ahead of DAYS 20 .. 30
            Due.is("m 20, q 20, one in vain", w, w.drum(0, 1, 20, 20), 20, 31, 1, 11);
            Due.is("m 20, q 19, one in vain", w, w.drum(0, 1, 20, 19), -2, 31, 1, 0);
        });
    }

    private static void drumTold() {
        Words.test(34, "the first DAY on which it is not HEEDED;", () -> {
            HallGlass x = days("00100000", "d=0|d=1|d=3|d=5");
            // it comes behind 1 alone
            Due.is("on 1, and again on 5", x, x.drum(0, 1, 1, 1), 1, 4, 3, 1);
            HallGlass y = days("000", "1");
            Due.is("on DAY 1, the earliest", y, y.drum(0, 1, 1, 1), 1, 2, 2, 0);
        });
        Words.test(34, "the ROW: hoistings, those in vain, EVENTS behind ones that were not HEEDED.", () -> {
            HallGlass x = days("0010101", "1");
            // it comes behind 1, 3, 5: not HEEDED on 1, 3, 5 (m 1, q 1), HEEDED on 0, 2, 4
            Due.is("each time amiss", x, x.drum(0, 1, 1, 1), 1, 6, 3, 3);
        });
        Words.test(34, "-2: always HEEDED (the ROW is told);", () -> {
            HallGlass x = days("0111", "1");
            x.hedge(70, 1);
            Due.is("always", x, x.drum(0, 1, 1, 1), -2, 3, 0, 0);
            HallGlass y = days("0", "1");
            y.hedge(70, 1);
            Due.is("no KNOWN DAYS", y, y.drum(0, 1, 1, 1), -2, 0, 0, 0);
        });
        Words.test(34, "NONE: others.", () -> {
            Object[] right = Twin.args(0, 2, 3, 1);
            Twin.bounds(-1, "drum", right, 0, 0, 2);
            Twin.bounds(-1, "drum", right, 1, 1, 3);
            Twin.bounds(-1, "drum", right, 2, 1, 20);
            Twin.bounds(-1, "drum", right, 3, 0, 3);
            Twin.bounds(-1, "drum", Twin.args(0, 2, 20, 1), 3, 0, 20);
            Twin.refuses(Twin::full, -1, "drum", 10, 1, 1, 1);
            Due.is("m 0, q 0", Twin.rich().drum(0, 2, 0, 0), -1);
            Due.is("q is m", Twin.rich().drum(0, 2, 1, 1) != -1, true);
            Due.is("no SIGN at all", days("0101").drum(0, 1, 1, 1), -1);
        });
    }

    private static void cry() {
        Words.test(35, "The greatest q (0 .. m) with which the drum is always HEEDED, as drum().", () -> {
            HallGlass x = days("0".repeat(25), "1", "d<20", "d<21", "0");
            Due.is("never followed, m 20", x.cry(0, 1, 20), 0);
            Due.is("20 hoistings, m 20: any", x.cry(1, 1, 20), 20);
            Due.is("21 hoistings, m 20", x.cry(2, 1, 20), 0);
            Due.is("never hoisted", x.cry(3, 1, 20), 20);
            Due.is("never hoisted, m 1", x.cry(3, 1, 1), 1);
            Due.is("without DAYS", days("", "1").cry(0, 1, 20), 20);
            HallGlass y = days("0" + "1".repeat(30), "1");
            Due.is("followed each time, m 20", y.cry(0, 1, 20), 20);
            Due.is("followed each time, m 1", y.cry(0, 1, 1), 1);
            HallGlass z = days("0110000", "1");
            for (int m = 1; m <= 6; m++) {
                int q = z.cry(0, 1, m);
                Due.is("as drum(), m " + m, z.drum(0, 1, m, q), -2);
                Due.is("and no greater one, m " + m, q == m || z.drum(0, 1, m, q + 1) >= 0, true);
            }
            int[] due = {0, 0, 0, 1, 2, 6};
            for (int m = 1; m <= 6; m++) {
                Due.is("m " + m, z.cry(0, 1, m), due[m - 1]);
            }
        });
        Words.test(35, "NONE: others.", () -> {
            Object[] right = Twin.args(0, 2, 3);
            Twin.bounds(-1, "cry", right, 0, 0, 2);
            Twin.bounds(-1, "cry", right, 1, 1, 3);
            Twin.bounds(-1, "cry", right, 2, 1, 20);
            Twin.refuses(Twin::full, -1, "cry", 10, 1, 1);
            Due.is("no SIGN at all", days("0101").cry(0, 1, 1), -1);
        });
    }

    // ---- hay

    private static void mow() {
        Words.test(36, "Hay: from DAY 0 on, on the first DAY on which a SIGN STANDS it is cut;", () -> {
            HallGlass x = days("0000000", "d=0", "d=3", "d=5", "0");
            Due.is("on DAY 0", x, x.mow(0, 2), 1, 0, 2);
            Due.is("on DAY 3", x, x.mow(1, 2), 1, 0, 3);
            Due.is("on DAY 5: too late", x, x.mow(2, 2), 0, 0, 5);
            Due.is("never", x, x.mow(3, 2), 0, 0, 5);
            x.mark(0, 499);
            Due.omen(x, 0, "w&d=2");
            Due.is("by a GLASS, with a MARK just told", x, x.mow(4, 2), 1, 0, 2);
            x.day(0, 498, 0);
            x.day(0, 500, 0);
            x.day(0, 500, 0);
            Due.omen(x, 0, "!w");
            Due.is("by a GLASS, on a DAY just told", x, x.mow(5, 2), 1, 0, 7);
            HallGlass y = new HallGlass();
            y.glass(0, 0, 0);
            Due.days(y, "0010000", "0000700");
            Due.omen(y, 0, "k=7");
            Due.omen(y, 0, "t=1");
            Due.omen(y, 0, "y=1");
            Due.is("by the SKY", y, y.mow(0, 2), 1, 0, 4);
            Due.is("by the WEATHER", y, y.mow(1, 2), 1, 0, 2);
            Due.is("by the WEATHER of the DAY ahead", y, y.mow(2, 2), 1, 0, 3);
        });
        Words.test(36, "if the h DAYS next (1 .. 6) are all of WEATHER 0, a field is in, and one goes on behind these;", () -> {
            for (int h = 1; h <= 6; h++) {
                HallGlass x = days("3" + "0".repeat(h), "1");
                Due.is("all fair, h " + h, x, x.mow(0, h), 1, 0, 0);
                // DAY h + 1 is the next one on which it can be cut
                HallGlass y = days("0".repeat(2 * h + 2), "1");
                Due.is("two, h " + h, y, y.mow(0, h), 2, 0, 0);
                HallGlass z = days("0".repeat(2 * h + 1), "1");
                Due.is("a DAY less, h " + h, z, z.mow(0, h), 1, 0, 0);
                HallGlass w = days("0".repeat(h) + "1" + "0".repeat(h), "d=0");
                Due.is("the last of them is not, h " + h, w, w.mow(0, h), 0, 1, 0);
            }
            HallGlass x = days("0".repeat(240), "1");
            Due.is("of 240, h 1", x, x.mow(0, 1), 120, 0, 0);
            Due.is("of 240, h 6", x, x.mow(0, 6), 34, 0, 0);
        });
        Words.test(36, "else it is spoilt on the first that is not, and one goes on behind that one.", () -> {
            // cut on 0, spoilt on 1; cut on 2, spoilt on 4; cut on 5, in on 7
            HallGlass x = days("01001000", "1");
            Due.is("1 and 4", x, x.mow(0, 2), 1, 2, 0);
            // cut on 0, spoilt on 1; cut on 2, spoilt on 3
            HallGlass y = days("010100", "d=0|d=1|d=2");
            Due.is("on the next DAY each", y, y.mow(0, 2), 0, 2, 0);
            HallGlass z = days("011111", "1");
            // cut on 0, 2; 4 has one DAY behind it
            Due.is("h 2", z, z.mow(0, 2), 0, 2, 0);
            Due.is("h 1", z, z.mow(0, 1), 0, 3, 0);
            HallGlass w = days("0110", "1");
            Due.is("any WEATHER on the DAY of cutting", w, w.mow(0, 1), 1, 1, 0);
        });
        Words.test(36, "A DAY without h DAYS behind it: nothing more is cut.", () -> {
            HallGlass x = days("000000", "1");
            Due.is("5 behind DAY 0, h 6", x, x.mow(0, 6), 0, 0, 0);
            Due.is("5 behind DAY 0, h 5", x, x.mow(0, 5), 1, 0, 0);
            Due.is("without DAYS", days("", "1").mow(0, 1), 0);
            Due.is("of one DAY", days("0", "1").mow(0, 1), 0);
            HallGlass y = days("0001", "d=1|d=2");
            Due.is("on DAY 1, with two behind it", y, y.mow(0, 2), 0, 1, 1);
            HallGlass z = days("0001", "d=2");
            Due.is("not on DAY 2, with one", z, z.mow(0, 2), 0, 0, 2);
        });
    }

    private static void mowTold() {
        Words.test(36, "How many fields are in; the ROW: how many were spoilt, DAYS on which nothing was cut or lay (of those gone through).", () -> {
            // idle on 0, cut on 1, in on 3, idle on 4, cut on 5, spoilt on 6, idle on 7; 8 and 9 have no two behind them
            HallGlass x = days("0000001000", "d=1|d=5");
            Due.is("one in, one spoilt, three idle", x, x.mow(0, 2), 1, 1, 3);
            HallGlass y = days("0000000000", "0");
            Due.is("idle on those with h behind them, h 1", y, y.mow(0, 1), 0, 0, 9);
            Due.is("idle on those with h behind them, h 6", y, y.mow(0, 6), 0, 0, 4);
            HallGlass z = days("", "1");
            Due.is("without DAYS", z, z.mow(0, 1), 0, 0, 0);
        });
        Words.test(36, "NONE: others.", () -> {
            Object[] right = Twin.args(0, 2);
            Twin.bounds(-1, "mow", right, 0, 0, 2);
            Twin.bounds(-1, "mow", right, 1, 1, 6);
            Twin.refuses(Twin::full, -1, "mow", 10, 1);
            Due.is("no SIGN at all", days("0000").mow(0, 1), -1);
        });
    }

    private static void fields() {
        Words.test(37, "The most fields that could be brought in, one behind the other, had one known all:"
                + " each cut on a DAY with h DAYS of WEATHER 0 next, the next one behind these: how many;", () -> {
            for (int h = 1; h <= 6; h++) {
                HallGlass x = days("0".repeat(2 * h + 2));
                Due.is("two, h " + h, x, x.fields(h), 2, 0, h + 1);
                x = days("0".repeat(2 * h + 1));
                Due.is("a DAY less, h " + h, x, x.fields(h), 1, 0);
                x = days("3" + "0".repeat(h));
                Due.is("any WEATHER on the DAY of cutting, h " + h, x, x.fields(h), 1, 0);
                x = days("0".repeat(h));
                Due.is("no DAY with h behind it, h " + h, x, x.fields(h), 0);
                x = days("0".repeat(h) + "1" + "0".repeat(h));
                Due.is("the DAY of rain is the only one to cut on, h " + h, x, x.fields(h), 1, h);
            }
            Due.is("without DAYS", new HallGlass().fields(1), 0);
            Due.is("of one DAY", days("0").fields(1), 0);
            HallGlass y = days("00100");
            // cut on 0, in on 1; cut on 2, in on 3
            Due.is("cut on a DAY of rain", y, y.fields(1), 2, 0, 2);
        });
        Words.test(37, "the ROW: the DAYS of cutting, each as early as can be (the first 20).", () -> {
            HallGlass x = days("10100100");
            // h 2: DAYS 3, 4 are fair, and 6, 7: cut on 2 and 5
            Due.is("on 2 and 5", x, x.fields(2), 2, 2, 5);
            for (int n = 0; n <= 22; n++) {
                HallGlass y = days("0".repeat(2 * n));
                long[] row = new long[Math.min(20, n)];
                for (int i = 0; i < row.length; i++) {
                    row[i] = 2 * i;
                }
                Due.is("of " + n, y, y.fields(1), n, row);
            }
        });
        Words.test(37, "NONE: others.", () -> {
            Twin.bounds(-1, "fields", Twin.args(2), 0, 1, 6);
            Twin.refuses(Twin::full, -1, "fields", 7);
            Twin.refuses(Twin::full, -1, "fields", 0);
            Due.is("without DAYS", new HallGlass().fields(7), -1);
        });
    }

    // ---- a village that talks

    private static void start() {
        Words.test(38, "A PERSON begins to look on a DAY (0 .. 239; at first 0): the one before.", () -> {
            HallGlass x = days("");
            x.person(1, 1, 1);
            Due.is("at first", x.start(0, 239), 0);
            Due.is("the last there can be", x.start(0, 0), 239);
            Due.is("the first", x.start(0, 1), 0);
            Due.is("of another", x.start(1, 5), 0);
            Due.is("then", x.start(0, 1), 1);
        });
        Words.test(38, "Refused: others.", () -> {
            Twin.bounds(-1, "start", Twin.args(1, 5), 0, 0, 2);
            Twin.bounds(-1, "start", Twin.args(1, 5), 1, 0, 239);
            Twin.refuses(Twin::full, -1, "start", 6, 5);
            Due.is("no PERSON at all", new HallGlass().start(0, 0), -1);
        });
    }

    private static void listen() {
        Words.test(39, "A PERSON LISTENS to others told as bits (of PERSONS that there are, not itself): what it was (at first 0).", () -> {
            HallGlass x = new HallGlass();
            for (int i = 0; i < 6; i++) {
                x.person(1, 1, 1);
                Due.is("to itself", x.listen(i, 1 << i), -1);
                Due.is("to one that is not there yet", x.listen(i, 2 << i), -1);
                Due.is("to all others", x.listen(i, (1 << i) - 1), 0);
                Due.is("to none", x.listen(i, 0), (1 << i) - 1);
            }
            Due.is("to all five", x.listen(0, 62), 0);
            Due.is("to all and itself", x.listen(0, 63), -1);
            Due.is("to one", x.listen(0, 32), 62);
            Due.is("then", x.listen(0, 0), 32);
        });
        Words.test(39, "Refused: others.", () -> {
            Twin.beyond(-1, "listen", Twin.args(1, 5), 0, 0, 2);
            Twin.beyond(-1, "listen", Twin.args(1, 5), 1, 0, 7);
            Twin.refusesEach(-1, "listen", Twin.args(1, 5), 1, 2, 3, 6, 7, 10, 2 + Integer.MIN_VALUE, 1 << 30);
            Twin.refuses(Twin::full, -1, "listen", 6, 1);
            Twin.refuses(Twin::full, -1, "listen", 1, 64);
            Due.is("no PERSON at all", new HallGlass().listen(0, 0), -1);
        });
    }

    /** A SIGN that STANDS always; it comes behind DAY 0 alone. PERSON 0, 1, 2 alike. */
    private static HallGlass three(String weathers) {
        HallGlass x = days(weathers, "1");
        x.person(3, 10, 1);
        x.person(3, 10, 1);
        return x;
    }

    private static void village() {
        Words.test(40, "As remember(), but the times are those of the PERSON itself and of all to whom it LISTENS, summed:"
                + " of each the latest m times that the SIGN STOOD on DAYS from its start on (a time that several remember counts for each);", () -> {
            HallGlass x = three("010000");
            Due.is("alone: on 1, 2", x, x.village(0, 0, 20, 1), 16, 2, 2, 1);
            Due.is("as remember()", x.remember(0, 0, 20, 1), 16);
            x.start(0, 1);
            Due.is("from DAY 1 on, which was in vain", x, x.village(0, 0, 20, 1), 10, 0, 0, 1);
            x.start(0, 0);
            x.start(1, 1);
            x.listen(0, 2);
            // on DAY 2: 1 of 2 and 0 of 1: 9 is not above 9
            Due.is("with one who has seen none come", x, x.village(0, 0, 20, 1), 13, 1, 1, 1);
            x.start(1, 0);
            Due.is("a time counts for each", x, x.village(0, 0, 20, 1), 16, 2, 2, 1);
            x.start(1, 5);
            x.start(2, 0);
            x.listen(0, 6);
            x.start(0, 2);
            // on DAY 1: of 2 one of one; on DAY 2: one of two; on 3: 1 of 3 and 0 of 1
            Due.is("of the third alone", x, x.village(0, 0, 20, 1), 16, 2, 2, 1);
            x.start(0, 1);
            // on DAY 2: 1 of 2 and 0 of 1
            Due.is("of the third and itself", x, x.village(0, 0, 20, 1), 13, 1, 1, 1);
            Due.is("of each the latest one", x, x.village(0, 0, 1, 1), 13, 1, 1, 1);
            x.listen(0, 0);
            x.start(0, 239);
            Due.is("nobody has seen it", x, x.village(0, 0, 20, 1), 10, 0, 0, 1);
            HallGlass z = three("010000");
            z.start(0, 239);
            z.start(2, 1);
            Due.is("PERSON 1 by its own times", z, z.village(1, 0, 20, 1), 16, 2, 2, 1);
            Due.is("PERSON 2 by its own times", z, z.village(2, 0, 20, 1), 10, 0, 0, 1);
            z.listen(2, 2);
            Due.is("PERSON 2 by its own and another's", z, z.village(2, 0, 20, 1), 13, 1, 1, 1);
            HallGlass y = three("01" + "0".repeat(30));
            y.listen(0, 6);
            Due.is("m 1 of three alike", y, y.village(0, 0, 1, 1), 13, 1, 1, 1);
            Due.is("those to whom one LISTENS tell but their own", y.village(1, 0, 1, 1), 13);
        });
        Words.test(40, "it may ACT ahead of its own start, too: COINS; the ROW: as remember().", () -> {
            HallGlass x = three("011111");
            x.start(0, 239);
            x.listen(0, 2);
            Due.is("on 1 .. 4, by another's times", x, x.village(0, 0, 20, 1), 10 + 16, 4, 0, 1);
            x.start(1, 2);
            Due.is("on 3, 4", x, x.village(0, 0, 20, 1), 30 + 8, 2, 0, 3);
            HallGlass y = three("");
            Due.is("without DAYS", y, y.village(0, 0, 20, 1), 0, 0, 0, 0);
        });
        Words.test(40, "NONE: others.", () -> {
            refusedTimes("village");
        });
    }

    private static void refusedTimes(String name) {
        Object[] right = Twin.args(0, 0, 3, 2);
        Twin.bounds(-1, name, right, 0, 0, 2);
        Twin.bounds(-1, name, right, 1, 0, 2);
        Twin.bounds(-1, name, right, 2, 1, 20);
        Twin.bounds(-1, name, right, 3, 1, 3);
        Twin.refuses(Twin::full, -1, name, 6, 0, 1, 1);
        Twin.refuses(Twin::full, -1, name, 0, 10, 1, 1);
        Twin.refuses(() -> days("0101"), -1, name, 0, 0, 1, 1);
    }

    private static void first() {
        Words.test(41, "WHO knows: the DAY on which a PERSON ACTS first, as village().", () -> {
            HallGlass x = three("0010000");
            // it comes behind DAY 1: on 2 one of two
            Due.is("on 2", x.first(0, 0, 20, 1), 2);
            Due.is("m 1: on 2", x.first(0, 0, 1, 1), 2);
            HallGlass y = three("0100");
            Due.is("on 1, the earliest", y.first(0, 0, 20, 1), 1);
            HallGlass z = three("010101");
            z.start(0, 3);
            Due.is("on its own, on 5 it is not KNOWN", z.first(0, 0, 20, 1), -2);
            z.start(0, 2);
            Due.is("on its own, on 3", z.first(0, 0, 20, 1), 3);
            z.listen(0, 2);
            Due.is("with another", z.first(0, 0, 20, 1), 1);
            z.start(2, 2);
            Due.is("PERSON 2, on its own", z.first(2, 0, 20, 1), 3);
            z.start(1, 239);
            Due.is("PERSON 1, on its own", z.first(1, 0, 20, 1), -2);
            z.listen(1, 4);
            Due.is("PERSON 1, with PERSON 2", z.first(1, 0, 20, 1), 3);
            HallGlass w = three("0".repeat(238) + "10");
            Due.is("the last KNOWN DAY", w.first(0, 0, 1, 1), 238);
        });
        Words.test(41, "-2: never;", () -> {
            HallGlass x = three("0000");
            x.hedge(70, 1);
            Due.is("it never came", x, x.first(0, 0, 20, 1), -2, 3000, 4200);
            Due.is("without DAYS", three("").first(0, 0, 20, 1), -2);
            Due.is("one KNOWN DAY", three("01").first(0, 0, 20, 1), -2);
            Due.is("two", three("010").first(0, 0, 20, 1), 1);
            Twin.refuses(() -> three("0000"), -2, "first", 0, 0, 1, 1);
        });
        Words.test(41, "NONE: others.", () -> {
            refusedTimes("first");
        });
    }
}
