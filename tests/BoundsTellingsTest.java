/** Promises 42 to 50, sentence by sentence: what is just within a bound, just beyond it, empty, full. */
public final class BoundsTellingsTest {
    public static void main(String[] args) throws Exception {
        Words.of(args[0]);
        valley();
        elsewhere();
        elsewhereTold();
        worlds();
        worldsChangeNothing();
        telling();
        judge();
        judgeTold();
        hedge();
        told();
        see();
        sticks();
        sticksTold();
        Words.allOf(42, 50);
        Due.end();
    }

    /** DAYS of AIR 500, SKY 0, a GLASS, and these SIGNS. */
    private static HallGlass days(String weathers, String... signs) {
        HallGlass x = new HallGlass();
        x.glass(0, 0, 0);
        for (int d = 0; d < weathers.length(); d++) {
            x.day(weathers.charAt(d) - '0', 500, 0);
        }
        for (String s : signs) {
            Due.omen(x, 0, s);
        }
        return x;
    }

    // ---- another valley

    private static void valley() {
        Words.test(42, "On a DAY there was a WEATHER in another valley (again: in place): how many DAYS were told.", () -> {
            HallGlass x = new HallGlass();
            Due.is("the last there can be", x.valley(239, 3), 1);
            Due.is("the first", x.valley(0, 0), 2);
            Due.is("again", x.valley(0, 3), 2);
            Due.is("again, the same", x.valley(0, 3), 2);
            Due.is("another", x.valley(1, 0), 3);
            HallGlass y = new HallGlass();
            for (int d = 239; d >= 0; d--) {
                Due.is("each DAY", y.valley(d, d % 4), 240 - d);
            }
            Due.is("again, when all are told", y.valley(100, 3), 240);
            Due.is("count(8)", y.count(8), 240);
            HallGlass z = days("0000", "1");
            z.valley(1, 3);
            Due.is("it comes", z.elsewhere(0, 3, 1), 1);
            z.valley(1, 2);
            Due.is("in place: it does not", z.elsewhere(0, 3, 1), 0);
        });
        Words.test(42, "Refused: others (DAY 0 .. 239).", () -> {
            Twin.bounds(-1, "valley", Twin.args(1, 1), 0, 0, 239);
            Twin.bounds(-1, "valley", Twin.args(1, 1), 1, 0, 3);
            Twin.bounds(-1, "valley", Twin.args(17, 1), 1, 0, 3);
        });
    }

    private static void elsewhere() {
        Words.test(43, "As table(), of KNOWN DAYS all of whose k DAYS next were told of the other valley, by its WEATHER:", () -> {
            HallGlass x = days("333333", "1");
            Due.is("none told", x, x.elsewhere(0, 1, 1), 0, 0, 0, 0, 0, -2, 0);
            x.valley(0, 3);
            Due.is("DAY 0 is next to none", x, x.elsewhere(0, 1, 1), 0, 0, 0, 0, 0, -2, 0);
            x.valley(2, 0);
            Due.is("DAY 1 counts", x, x.elsewhere(0, 1, 1), 0, 0, 1, 0, 0, 0, 1);
            Due.is("k 2: of 0 and 1 not all", x, x.elsewhere(0, 1, 2), 0, 0, 0, 0, 0, -2, 0);
            x.valley(3, 2);
            Due.is("k 2: of 1 all", x, x.elsewhere(0, 2, 2), 1, 1, 0, 0, 0, 0, 1);
            Due.is("k 2, c 3: its own WEATHER does not count", x, x.elsewhere(0, 3, 2), 0, 0, 1, 0, 0, 0, 1);
            x.valley(5, 1);
            Due.is("the last DAY is next to a KNOWN one", x, x.elsewhere(0, 1, 1), 2, 2, 1, 0, 0, 0, 3);
            x.valley(6, 3);
            Due.is("DAY 5 is not KNOWN", x, x.elsewhere(0, 1, 1), 2, 2, 1, 0, 0, 0, 3);
            x.valley(4, 0);
            Due.is("k 4: of DAY 1, not of 2", x, x.elsewhere(0, 2, 4), 1, 1, 0, 0, 0, 0, 1);
            Due.is("k 5: not of 0, as DAY 1 was not told", x, x.elsewhere(0, 1, 5), 0, 0, 0, 0, 0, -2, 0);
            x.valley(1, 0);
            Due.is("k 5: of 0, all of DAYS 1 .. 5 are told", x, x.elsewhere(0, 2, 5), 1, 1, 0, 0, 0, 0, 1);
            Due.is("k 6: no KNOWN DAY", x, x.elsewhere(0, 2, 6), 0, 0, 0, 0, 0, -2, 0);
            HallGlass y = days("", "1");
            y.valley(1, 3);
            Due.is("without DAYS", y, y.elsewhere(0, 1, 1), 0, 0, 0, 0, 0, -2, 0);
        });
    }

    private static void elsewhereTold() {
        Words.test(43, "on how many the SIGN STANDS and the EVENT comes; the ROW likewise,", () -> {
            // it comes there behind DAYS 0 and 2 of 0 .. 3
            HallGlass x = days("00000", "d<2", "d=1", "1", "0");
            for (int d = 1; d <= 4; d++) {
                x.valley(d, d % 2);
            }
            Due.is("each of them", x, x.elsewhere(0, 1, 1), 1, 1, 1, 1, 1, 0, 4);
            Due.is("none together", x, x.elsewhere(1, 1, 1), 0, 0, 1, 2, 1, 2, 4);
            Due.omen(x, 0, "p=498|f=2");
            x.day(0, 498, 0);
            x.day(0, 500, 0);
            x.valley(6, 1);
            Due.is("by a GLASS, on a DAY just told", x, x.elsewhere(4, 1, 1), 1, 1, 0, 2, 2, 1, 5);
            x.glass(100, 0, 0);
            Due.omen(x, 1, "p=398");
            Due.is("by a GLASS just told", x, x.elsewhere(5, 1, 1), 1, 1, 0, 2, 2, 1, 5);
            HallGlass y = new HallGlass();
            y.glass(0, 0, 0);
            Due.days(y, "0200", "0070");
            y.valley(2, 0);
            y.valley(3, 1);
            Due.omen(y, 0, "k=7");
            Due.omen(y, 0, "t=2");
            Due.is("by the SKY here", y, y.elsewhere(0, 1, 1), 1, 1, 0, 0, 1, 1, 2);
            Due.is("by the WEATHER here", y, y.elsewhere(1, 1, 1), 0, 0, 1, 1, 0, 2, 2);
        });
        Words.test(43, "then as says() 1, 2, 0 or -2, and how many such DAYS.", () -> {
            HallGlass x = days("00000", "d<3", "d=1", "1", "0", "d=0", "d=4");
            for (int d = 1; d <= 4; d++) {
                x.valley(d, d % 2);
            }
            Due.is("1: 2 of 3, 2 of 4", x, x.elsewhere(0, 1, 1), 2, 2, 1, 0, 1, 1, 4);
            Due.is("2: 0 of 1, 2 of 4", x, x.elsewhere(1, 1, 1), 0, 0, 1, 2, 1, 2, 4);
            Due.is("0: 2 of 4", x, x.elsewhere(2, 1, 1), 2, 2, 2, 0, 0, 0, 4);
            Due.is("-2: never", x, x.elsewhere(3, 1, 1), 0, 0, 0, 2, 2, -2, 4);
            Due.is("1: 1 of 1, 2 of 4", x, x.elsewhere(4, 1, 1), 1, 1, 0, 1, 2, 1, 4);
            Due.is("-2: not on a KNOWN DAY", x, x.elsewhere(5, 1, 1), 0, 0, 0, 2, 2, -2, 4);
            Due.is("0: it never comes", x, x.elsewhere(0, 2, 1), 0, 0, 3, 0, 1, 0, 4);
        });
        Words.test(43, "NONE: others.", () -> {
            Object[] right = Twin.args(0, 2, 1);
            Twin.bounds(-1, "elsewhere", right, 0, 0, 2);
            Twin.bounds(-1, "elsewhere", right, 1, 1, 3);
            Twin.bounds(-1, "elsewhere", right, 2, 1, 9);
            Twin.refuses(Twin::full, -1, "elsewhere", 10, 2, 1);
            Due.is("no SIGN at all", days("0000").elsewhere(0, 1, 1), -1);
        });
    }

    // ---- worlds

    private static HallGlass forWorlds() {
        HallGlass x = days("0123", "t=0", "f>5", "1");
        x.person(4, 9, 0);
        x.weight(0, 0, 6);
        x.seed(4711);
        return x;
    }

    /** What it comes to, by an object of its own for each world. */
    private static long[] byHand(int signs, int days, int n, int c, int k) {
        long[] due = {0, 0, Long.MIN_VALUE, 4711};
        for (int i = 0; i < n; i++) {
            HallGlass y = days("", "t=0", "f>5", "1");
            y.person(4, 9, 0);
            y.weight(0, 0, 6);
            y.seed((int) due[3]);
            y.run(days);
            int saved = y.saved(0, signs, c, k);
            due[0] += saved > 0 ? 1 : 0;
            due[1] += saved;
            due[2] = Math.max(due[2], saved);
            due[3] = y.seed(0);
        }
        return due;
    }

    private static void worlds() {
        Words.test(44, "n worlds (1 .. 12) of DAYS (1 .. 60) are MADE one behind the other, each from none on, R going on;"
                + " of each SAVED BY SIGNS for a PERSON (BLIND as always): in how many it is above 0; the ROW: the sum, the greatest.", () -> {
            int[][] edges = {{1, 1, 1, 1, 1}, {1, 60, 12, 2, 1}, {1, 60, 1, 1, 1}, {3, 2, 12, 1, 1}, {7, 59, 11, 3, 9}, {1, 10, 12, 1, 9},
                {1, 9, 12, 1, 9}, {2, 30, 5, 1, 1}, {4, 60, 12, 1, 1}};
            int above = 0;
            for (int[] e : edges) {
                HallGlass x = forWorlds();
                long[] due = byHand(e[0], e[1], e[2], e[3], e[4]);
                above += due[0] > 0 ? 1 : 0;
                Due.is("bits " + e[0] + ", " + e[1] + " DAYS, " + e[2] + " worlds", x, x.worlds(0, e[0], e[1], e[2], e[3], e[4]), due[0], due[1], due[2]);
            }
            Due.is("in some it is above 0", above >= 3, true);
            HallGlass x = forWorlds();
            Due.is("one DAY is not KNOWN", x, x.worlds(0, 1, 1, 12, 1, 1), 0, 0, 0);
            Due.is("a sign that always STANDS saves nothing", x, x.worlds(0, 4, 60, 12, 1, 1), 0, 0, 0);
        });
    }

    private static void worldsChangeNothing() {
        Words.test(44, "Nothing changes (R neither).", () -> {
            HallGlass x = Twin.rich();
            HallGlass y = Twin.rich();
            x.worlds(0, 7, 60, 12, 1, 1);
            x.table(0, 2, 1);
            Twin.alike("worlds() behind which ", x, y);
            HallGlass z = Twin.full();
            Due.is("with 240 DAYS", z.worlds(0, 1023, 60, 12, 1, 1) >= 0, true);
            Due.is("count(0)", z.count(0), 240);
            z.table(3, 2, 1);
            Twin.alike("worlds() of a full one behind which ", z, Twin.full());
        });
        Words.test(44, "NONE: others.", () -> {
            Object[] right = Twin.args(0, 1, 10, 3, 1, 1);
            Twin.bounds(-1, "worlds", right, 0, 0, 2);
            Twin.bounds(-1, "worlds", right, 1, 1, 7);
            Twin.bounds(-1, "worlds", right, 2, 1, 60);
            Twin.bounds(-1, "worlds", right, 3, 1, 12);
            Twin.bounds(-1, "worlds", right, 4, 1, 3);
            Twin.bounds(-1, "worlds", right, 5, 1, 9);
            Twin.refuses(Twin::full, -1, "worlds", 6, 1, 10, 3, 1, 1);
            Twin.refuses(Twin::full, -1, "worlds", 0, 1024, 10, 3, 1, 1);
            HallGlass x = days("0101");
            x.person(1, 1, 1);
            Due.is("no SIGN at all", x.worlds(0, 1, 1, 1, 1, 1), -1);
        });
    }

    // ---- tellings judged

    private static void telling() {
        Words.test(45, "An office told for a DAY that an EVENT (c, 1) comes behind it with so many in a hundred (0 .. 100; again: in place): how many DAYS were told.", () -> {
            HallGlass x = new HallGlass();
            Due.is("the last there can be", x.telling(239, 100), 1);
            Due.is("the first", x.telling(0, 0), 2);
            Due.is("again", x.telling(0, 100), 2);
            Due.is("again, the same", x.telling(0, 100), 2);
            Due.is("another", x.telling(1, 0), 3);
            HallGlass y = new HallGlass();
            for (int d = 239; d >= 0; d--) {
                Due.is("each DAY", y.telling(d, d % 101), 240 - d);
            }
            Due.is("again, when all are told", y.telling(100, 3), 240);
            Due.is("count(4)", y.count(4), 240);
            HallGlass z = days("00");
            z.telling(0, 40);
            Due.is("40 from 0", z, z.judge(1, 1), 0, 40, 0, 0);
            z.telling(0, 30);
            Due.is("in place", z, z.judge(1, 1), 0, 30, 0, 0);
        });
        Words.test(45, "Refused: others (DAY 0 .. 239).", () -> {
            Twin.bounds(-1, "telling", Twin.args(1, 50), 0, 0, 239);
            Twin.bounds(-1, "telling", Twin.args(1, 50), 1, 0, 100);
            Twin.bounds(-1, "telling", Twin.args(2, 50), 1, 0, 100);
        });
    }

    /** Told of DAYS 0, 1, ..: these percents. */
    private static HallGlass office(String weathers, int... percents) {
        HallGlass x = days(weathers);
        for (int d = 0; d < percents.length; d++) {
            x.telling(d, percents[d]);
        }
        return x;
    }

    private static void judge() {
        Words.test(46, "By measure 0 (squares) or 1 (distances): the sum, over KNOWN DAYS that were told,"
                + " of how far what was told is from 100, if the EVENT (c, 1) came, else from 0;", () -> {
            HallGlass x = office("0102", 100, 0, 100, 100);
            Due.is("just right, squares", x, x.judge(1, 0), 0, 0, 6667, 67);
            Due.is("just right, distances", x, x.judge(1, 1), 0, 0, 100, 100);
            x = office("0102", 0, 100, 0, 0);
            Due.is("just wrong, squares", x, x.judge(1, 0), 0, 30000, 6667, 67);
            Due.is("just wrong, distances", x, x.judge(1, 1), 0, 300, 100, 100);
            x = office("0102", 40, 30, 20, 10);
            Due.is("squares", x, x.judge(1, 0), 0, 3600 + 900 + 6400, 6667, 67);
            Due.is("distances", x, x.judge(1, 1), 0, 60 + 30 + 80, 100, 100);
            Due.is("c 2: behind DAY 2 alone", x, x.judge(2, 1), 0, 40 + 30 + 80, 100, 0);
            Due.is("c 3: behind none", x, x.judge(3, 0), 0, 1600 + 900 + 400, 0, 0);
            HallGlass y = new HallGlass();
            y.run(100);
            y.run(100);
            y.run(40);
            for (int d = 0; d < 240; d++) {
                y.telling(d, 50);
            }
            y.judge(2, 0);
            Due.is("of 239, squares", y.row(0), 239 * 2500);
            y.judge(2, 1);
            Due.is("of 239, distances", y.row(0), 239 * 50);
        });
    }

    private static void judgeTold() {
        Words.test(46, "the ROW: this, the least such sum of one percent told for all of them, that percent (of equal ones the least). 0;", () -> {
            HallGlass x = office("010", 10, 10);
            // one of two comes: by distances each percent costs 100
            Due.is("distances: all alike: 0", x, x.judge(1, 1), 0, 100, 100, 0);
            Due.is("squares: 50", x, x.judge(1, 0), 0, 8100 + 100, 5000, 50);
            x = office("01000", 10, 10, 10, 10);
            Due.is("squares of 1 of 4: 25", x, x.judge(1, 0), 0, 8100 + 300, 7500, 25);
            x = office("01111", 1, 1, 1, 1);
            Due.is("all come: 100", x, x.judge(1, 0), 0, 4 * 9801, 0, 100);
            Due.is("all come, distances: 100", x, x.judge(1, 1), 0, 4 * 99, 0, 100);
            x = office("00000", 1, 1, 1, 1);
            Due.is("none comes: 0", x, x.judge(1, 0), 0, 4, 0, 0);
            // 1 of 8 is 12.5: 12 and 13 are as near to it
            x = office("010000000", 0, 0, 0, 0, 0, 0, 0, 0);
            Due.is("squares of 1 of 8: 12 and 13 alike", x, x.judge(1, 0), 0, 10000, 8752, 12);
        });
        Words.test(46, "-2: no such DAY;", () -> {
            HallGlass x = office("0101");
            x.hedge(70, 1);
            Due.is("none told", x, x.judge(1, 0), -2, 3000, 4200);
            x.telling(3, 50);
            Due.is("one told that is not KNOWN", x, x.judge(1, 0), -2, 3000, 4200);
            x.telling(239, 50);
            Due.is("one told that is no DAY", x, x.judge(1, 1), -2, 3000, 4200);
            x.telling(2, 50);
            Due.is("the last KNOWN DAY", x, x.judge(1, 1), 0, 50, 0, 100);
            Due.is("without DAYS", office("", 5).judge(1, 1), -2);
            Due.is("of one DAY", office("3", 5).judge(1, 1), -2);
            Due.is("of two", office("33", 5).judge(1, 1), 0);
            Twin.refuses(() -> office("0101"), -2, "judge", 1, 0);
        });
        Words.test(46, "NONE: others.", () -> {
            Twin.bounds(-1, "judge", Twin.args(2, 1), 0, 1, 3);
            Twin.bounds(-1, "judge", Twin.args(2, 1), 1, 0, 1);
            Twin.refuses(() -> office("0101"), -1, "judge", 1, 2);
            Twin.refuses(() -> office("0101"), -1, "judge", 0, 1);
        });
    }

    private static void hedge() {
        Words.test(47, "Who believes p in a hundred: the percent by telling which it may expect the least by a measure (of equal ones the least);", () -> {
            HallGlass x = new HallGlass();
            for (int p : new int[] {0, 1, 49, 50, 51, 99, 100}) {
                Due.is("squares, " + p, x.hedge(p, 0), p);
                Due.is("distances, " + p, x.hedge(p, 1), p <= 50 ? 0 : 100);
            }
        });
        Words.test(47, "the ROW: p times the measure from 100, and 100 less p times that from 0, for it, and for p itself.", () -> {
            HallGlass x = new HallGlass();
            Due.is("distances, 0", x, x.hedge(0, 1), 0, 0, 0);
            Due.is("distances, 1", x, x.hedge(1, 1), 0, 100, 99 + 99);
            Due.is("distances, 50", x, x.hedge(50, 1), 0, 5000, 5000);
            Due.is("distances, 51", x, x.hedge(51, 1), 100, 4900, 51 * 49 + 49 * 51);
            Due.is("distances, 100", x, x.hedge(100, 1), 100, 0, 0);
            Due.is("squares, 0", x, x.hedge(0, 0), 0, 0, 0);
            Due.is("squares, 30", x, x.hedge(30, 0), 30, 30 * 4900 + 70 * 900, 210000);
            Due.is("squares, 100", x, x.hedge(100, 0), 100, 0, 0);
        });
        Words.test(47, "NONE: others.", () -> {
            Twin.bounds(-1, "hedge", Twin.args(50, 1), 0, 0, 100);
            Twin.bounds(-1, "hedge", Twin.args(50, 1), 1, 0, 1);
        });
    }

    private static void told() {
        Words.test(48, "Of KNOWN DAYS told with 10 times i to 10 times i and 9 (i 0 .. 10; 10: 100) how many;", () -> {
            HallGlass x = new HallGlass();
            for (int d = 0; d <= 101; d++) {
                x.day(0, 500, 0);
                x.telling(d, Math.min(d, 100));
            }
            for (int i = 0; i <= 9; i++) {
                Due.is("told(" + i + ", 1)", x.told(i, 1), 10);
            }
            Due.is("100 alone; one more is not KNOWN", x.told(10, 1), 1);
            for (int percent = 0; percent <= 100; percent++) {
                HallGlass y = office("00", percent);
                for (int i = 0; i <= 10; i++) {
                    Due.is(percent + " by told(" + i + ", 1)", y.told(i, 1), percent / 10 == i ? 1 : 0);
                }
            }
            Due.is("without DAYS", office("", 5).told(0, 1), 0);
            Due.is("none told", office("0101").told(0, 1), 0);
        });
        Words.test(48, "the ROW: on how many the EVENT (c, 1) came.", () -> {
            HallGlass x = office("012300", 50, 55, 59, 50, 60, 55);
            // behind 0, 1, 2 it comes with 1, 2, 3; 5 is not KNOWN
            Due.is("c 1", x, x.told(5, 1), 4, 3);
            Due.is("c 2", x, x.told(5, 2), 4, 2);
            Due.is("c 3", x, x.told(5, 3), 4, 1);
            Due.is("on none", x, x.told(6, 1), 1, 0);
            Due.is("none told", x, x.told(10, 1), 0, 0);
        });
        Words.test(48, "NONE: others.", () -> {
            Twin.bounds(-1, "told", Twin.args(5, 1), 0, 0, 10);
            Twin.bounds(-1, "told", Twin.args(5, 1), 1, 1, 3);
        });
    }

    // ---- glasses that stick

    private static void see() {
        Words.test(49, "What was SEEN of some other glass, tapped each time (at most 20): where its hand stood ahead of the tap, and behind it (-999 .. 1999): how many.", () -> {
            HallGlass x = new HallGlass();
            Due.is("the least ones", x.see(-999, -999), 1);
            Due.is("the greatest ones", x.see(1999, 1999), 2);
            Due.is("unlike ones", x.see(-999, 1999), 3);
            Due.is("the other way", x.see(1999, -999), 4);
            for (int i = 5; i <= 20; i++) {
                Due.is("see " + i, x.see(i, -i), i);
            }
            Due.is("one more", x.see(0, 0), -1);
            Due.is("count(5)", x.count(5), 20);
        });
        Words.test(49, "Refused: others.", () -> {
            Twin.bounds(-1, "see", Twin.args(120, 120), 0, -999, 1999);
            Twin.bounds(-1, "see", Twin.args(120, 120), 1, -999, 1999);
            Twin.refuses(Twin::full, -1, "see", 100, 100);
            Twin.refuses(Twin::full, -1, "see", 0, 0);
        });
    }

    private static HallGlass seen(int... aheadAndBehind) {
        HallGlass x = new HallGlass();
        for (int i = 0; i + 1 < aheadAndBehind.length; i += 2) {
            x.see(aheadAndBehind[i], aheadAndBehind[i + 1]);
        }
        return x;
    }

    private static void check(String what, HallGlass x, int many, long... row) {
        Due.is(what, x, x.sticks(), many, row);
    }

    private static void sticks() {
        Words.test(50, "STICKS (0 .. 40) that fit all that was SEEN, one behind the other (of the first one nothing is known;", () -> {
            check("nothing SEEN", seen(), 41, 0, 40);
            check("the first alone", seen(0, 100), 41, 0, 40);
            check("the first, as far as can be", seen(-999, 1999), 41, 0, 40);
            check("it stood still", seen(0, 100, 100, 100), 41, 0, 40);
            check("40 is within", seen(0, 100, 100, 140), 1, 40, 40);
            check("41 is beyond", seen(0, 100, 100, 141), 0);
            check("0 is within", seen(0, 100, 101, 101), 1, 0, 0);
            check("all of them, one behind the other", seen(0, 100, 100, 105, 105, 108, 120, 120, 120, 110), 2, 10, 11);
            HallGlass x = seen(0, 100);
            for (int i = 0; i < 19; i++) {
                x.see(100 + 5 * i, 105 + 5 * i);
            }
            check("twenty", x, 36, 5, 40);
        });
        Words.test(50, "then the hand stood where it was behind the tap ahead, unless what is behind the tap is farther from that than STICK:"
                + " then it stood there already): how many;", () -> {
            check("it stayed over 7: 7 and more", seen(0, 100, 100, 107), 34, 7, 40);
            check("it stayed over 7 downwards", seen(0, 100, 100, 93), 34, 7, 40);
            check("it went over 7: less than 7", seen(0, 100, 107, 107), 7, 0, 6);
            check("it went over 7 downwards", seen(0, 100, 93, 93), 7, 0, 6);
            check("it went over 41: all", seen(0, 100, 141, 141), 41, 0, 40);
            check("it went over 40: all but 40", seen(0, 100, 140, 140), 40, 0, 39);
            check("it stood at neither", seen(0, 100, 101, 107), 0);
            check("it stood at neither, beyond all", seen(0, 100, 141, 150), 0);
            check("where it was ahead of the tap ahead does not count", seen(0, 100, 0, 107), 0);
        });
    }

    private static void sticksTold() {
        Words.test(50, "the ROW: the least, the greatest.", () -> {
            check("stayed over 3, went over 12", seen(0, 100, 100, 103, 115, 115), 9, 3, 11);
            check("just one", seen(0, 100, 100, 103, 107, 107), 1, 3, 3);
            HallGlass x = seen(0, 100, 100, 103);
            x.table(0, 0, 0);
            check("again, as nothing changes", x, 38, 3, 40);
            check("again, as nothing changes", x, 38, 3, 40);
        });
        Words.test(50, "0: none.", () -> {
            HallGlass x = seen(0, 100, 100, 103, 103, 104);
            check("stayed over 3", x, 38, 3, 40);
            x.see(106, 106);
            check("and went over 2: none; the ROW stays", x, 0, 3, 40);
            x.see(106, 106);
            check("none from then on", x, 0, 3, 40);
            Twin.refuses(() -> seen(0, 100, 99, 103), 0, "sticks");
        });
    }
}
