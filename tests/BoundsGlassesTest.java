/** Promises 9 to 15, sentence by sentence: what is just within a bound, just beyond it, empty, full. */
public final class BoundsGlassesTest {
    public static void main(String[] args) throws Exception {
        Words.of(args[0]);
        glass();
        tap();
        mark();
        shown();
        differ();
        right();
        whose();
        Words.allOf(9, 15);
        Due.end();
    }

    private static void glass() {
        Words.test(9, "A GLASS without MARKS, TAPPED: its number.", () -> {
            HallGlass x = new HallGlass();
            Due.airs(x, 500, 501);
            for (int g = 0; g < 4; g++) {
                Due.is("glass " + g, x.glass(g, 0, 40), g);
                Due.is("TAPPED", x.shown(g, 1, 2), 501 - g);
                Due.is("without MARKS", x.shown(g, 1, 3), 0);
                Due.is("the first MARK", x.mark(g, 0), 1);
            }
            HallGlass y = new HallGlass();
            Due.is("the least", y.glass(0, -50, 0), 0);
            Due.is("the greatest", y.glass(300, 50, 40), 1);
        });
        Words.test(9, "Refused: others, 4.", () -> {
            Object[] right = Twin.args(100, 0, 10);
            Twin.bounds(-1, "glass", right, 0, 0, 300);
            Twin.bounds(-1, "glass", right, 1, -50, 50);
            Twin.bounds(-1, "glass", right, 2, 0, 40);
            Twin.refuses(Twin::full, -1, "glass", 100, 0, 10);
            HallGlass x = Twin.rich();
            Due.is("the last", x.glass(100, 0, 10), 3);
            Due.is("one more", x.glass(100, 0, 10), -1);
        });
    }

    private static void tap() {
        Words.test(10, "A GLASS is TAPPED, or not: true.", () -> {
            HallGlass x = new HallGlass();
            Due.airs(x, 500, 501);
            for (int g = 0; g < 4; g++) {
                x.glass(0, 0, 40);
            }
            for (int g = 0; g < 4; g++) {
                Due.is("not", x.tap(g, false), true);
                Due.is("not, again", x.tap(g, false), true);
                for (int other = 0; other < 4; other++) {
                    Due.is("SHOWN of " + other, x.shown(other, 1, 2), other <= g ? 500 : 501);
                }
            }
            Due.is("TAPPED", x.tap(3, true), true);
            Due.is("TAPPED, again", x.tap(3, true), true);
            Due.is("SHOWN", x.shown(3, 1, 2), 501);
            Due.is("SHOWN of another", x.shown(2, 1, 2), 500);
        });
        Words.test(10, "Refused: none such.", () -> {
            for (boolean is : new boolean[] {true, false}) {
                Twin.bounds(false, "tap", Twin.args(0, is), 0, 0, 2);
                Twin.refuses(Twin::full, false, "tap", 4, is);
                Due.is("no GLASS at all", new HallGlass().tap(0, is), false);
            }
        });
    }

    private static void mark() {
        Words.test(11, "A MARK more of a GLASS: how many.", () -> {
            HallGlass x = new HallGlass();
            x.glass(0, 0, 0);
            x.glass(0, 0, 0);
            int[] marks = {999, -999, 0, -1, 1, 998, -998, 5};
            for (int i = 0; i < 8; i++) {
                Due.is("mark(0, " + marks[i] + ")", x.mark(0, marks[i]), i + 1);
            }
            Due.is("of the other one, which is there of the first", x.mark(1, 999), 1);
        });
        Words.test(11, "Refused: others, it is there, 8.", () -> {
            Twin.bounds(-1, "mark", Twin.args(0, 5), 0, 0, 2);
            Twin.bounds(-1, "mark", Twin.args(0, 5), 1, -999, 999);
            Twin.refuses(-1, "mark", 0, 480);
            Twin.refuses(-1, "mark", 0, 500);
            Twin.refuses(-1, "mark", 1, 390);
            Twin.refuses(Twin::full, -1, "mark", 0, 0);
            Twin.refuses(Twin::full, -1, "mark", 3, 999);
            Twin.refuses(Twin::full, -1, "mark", 3, 423);
            Due.is("no GLASS at all", new HallGlass().mark(0, 5), -1);
            HallGlass x = new HallGlass();
            x.glass(0, 0, 0);
            for (int i = 1; i <= 7; i++) {
                x.mark(0, i);
            }
            Due.is("the last", x.mark(0, 8), 8);
            Due.is("one more", x.mark(0, 9), -1);
        });
    }

    private static void shown() {
        Words.test(12, "Of a GLASS on a DAY, what 0: TRUE, 1: HAND, 2: SHOWN, 3: WORD.", () -> {
            HallGlass x = new HallGlass();
            x.glass(100, 5, 10);
            Due.airs(x, 500, 508, 519);
            x.mark(0, 413);
            x.mark(0, 424);
            // TAPPED: the hand stays on DAY 1, and goes on DAY 2 from 413
            int[][] tapped = {{405, 405, 405, 0}, {413, 405, 413, 1}, {424, 424, 424, 2}};
            // not TAPPED: it stays on DAY 1
            int[][] not = {{405, 405, 405, 0}, {413, 405, 405, 0}, {424, 424, 424, 2}};
            for (int d = 0; d < 3; d++) {
                for (int what = 0; what < 4; what++) {
                    x.tap(0, true);
                    Due.is("TAPPED, shown(0, " + d + ", " + what + ")", x.shown(0, d, what), tapped[d][what]);
                    x.tap(0, false);
                    Due.is("not, shown(0, " + d + ", " + what + ")", x.shown(0, d, what), not[d][what]);
                }
            }
            HallGlass y = new HallGlass();
            y.glass(300, -50, 0);
            y.glass(0, 0, 0);
            y.day(0, 349, 0);
            y.mark(0, 0);
            y.mark(1, 350);
            Due.is("-1 is what a GLASS can show", y.shown(0, 0, 2), -1);
            Due.is("a MARK one above", y.shown(0, 0, 3), 0);
            Due.is("a MARK one above of the other", y.shown(1, 0, 3), 0);
            Due.airs(y, 350);
            Due.is("a MARK just there", y.shown(0, 1, 3), 1);
            Due.is("a MARK just there of the other", y.shown(1, 1, 3), 1);
        });
        Words.test(12, "NoSuchElementException: none such, another what.", () -> {
            Object[] right = Twin.args(1, 2, 3);
            Twin.bounds(Twin.THROWS, "shown", right, 0, 0, 2);
            Twin.bounds(Twin.THROWS, "shown", right, 1, 0, 10);
            Twin.bounds(Twin.THROWS, "shown", right, 2, 0, 3);
            HallGlass x = new HallGlass();
            x.glass(0, 0, 0);
            Due.none("without DAYS", () -> x.shown(0, 0, 0));
            HallGlass y = Twin.full();
            Due.same("the last of all", Twin.answer(y, "shown", 3, 239, 0), y.of(239, 1) + 3 - 60);
            Due.none("a DAY more", () -> y.shown(3, 240, 0));
            Due.none("a GLASS more", () -> y.shown(4, 239, 0));
        });
    }

    /** Two GLASSES, the WORD of the first is 1 on DAYS of AIR 500 and more. */
    private static HallGlass twoGlasses() {
        HallGlass x = new HallGlass();
        x.glass(0, 0, 0);
        x.glass(0, 0, 0);
        x.mark(0, 500);
        return x;
    }

    private static void differ() {
        Words.test(13, "On how many DAYS two GLASSES have unlike WORDS;", () -> {
            HallGlass x = twoGlasses();
            Due.is("without DAYS", x.differ(0, 1), 0);
            Due.airs(x, 499);
            Due.is("just below", x.differ(0, 1), 0);
            Due.airs(x, 500);
            Due.is("just there", x.differ(0, 1), 1);
            Due.is("the other way", x.differ(1, 0), 1);
            Due.is("one and itself", x.differ(0, 0), 0);
            x.run(100);
            x.run(100);
            x.run(38);
            x.mark(0, 0);
            Due.is("of 240 DAYS on all", x.differ(0, 1), 240);
        });
        Words.test(13, "the ROW: the first 20 of them.", () -> {
            HallGlass x = twoGlasses();
            Due.is("none", x, x.differ(0, 1), 0);
            Due.airs(x, 0);
            for (int i = 1; i <= 22; i++) {
                Due.airs(x, 500);
                long[] row = new long[Math.min(20, i)];
                for (int j = 0; j < row.length; j++) {
                    row[j] = 1 + j;
                }
                Due.is("of " + i, x, x.differ(0, 1), i, row);
            }
        });
        Words.test(13, "NONE: none such.", () -> {
            Twin.bounds(-1, "differ", Twin.args(0, 1), 0, 0, 2);
            Twin.bounds(-1, "differ", Twin.args(0, 1), 1, 0, 2);
            Twin.refuses(Twin::full, -1, "differ", 4, 0);
            Twin.refuses(Twin::full, -1, "differ", 0, 4);
            Due.is("no GLASS at all", new HallGlass().differ(0, 0), -1);
        });
    }

    /** Of one DAY of AIR 500: a MARK of GLASS 0, and one of GLASS 1 that is there (0) or above (999). */
    private static HallGlass oneMarkEach(int mark, int other) {
        HallGlass x = new HallGlass();
        x.glass(0, 0, 0);
        x.glass(0, 0, 0);
        x.mark(0, mark);
        x.mark(1, other);
        x.day(0, 500, 0);
        return x;
    }

    private static void right() {
        Words.test(14, "The shift -60 .. 60 of all MARKS of a GLASS with which its WORD is another one's on the most DAYS: on how many;", () -> {
            HallGlass x = oneMarkEach(560, 0);
            Due.is("-60 is within", x, x.right(0, 1), 1, -60);
            x = oneMarkEach(561, 0);
            Due.is("-61 is beyond", x, x.right(0, 1), 0, 0);
            x = oneMarkEach(441, 999);
            Due.is("60 is within", x, x.right(0, 1), 1, 60);
            x = oneMarkEach(440, 999);
            Due.is("61 is beyond", x, x.right(0, 1), 0, 0);
            x = oneMarkEach(500, 0);
            x.mark(0, 540);
            x.mark(1, 1);
            Due.is("of all MARKS", x, x.right(0, 1), 1, -40);
            x = oneMarkEach(500, 500);
            Due.is("both just there", x, x.right(0, 1), 1, 0);
            x = oneMarkEach(500, 501);
            Due.is("the other one's one above", x, x.right(0, 1), 1, 1);
            x = oneMarkEach(501, 500);
            Due.is("the other one's just there", x, x.right(0, 1), 1, -1);
            HallGlass y = new HallGlass();
            y.glass(0, 0, 0);
            y.glass(0, 0, 0);
            Due.is("without DAYS", y, y.right(0, 1), 0, 0);
            y.run(100);
            y.run(100);
            y.run(40);
            Due.is("without MARKS, on 240 DAYS", y, y.right(0, 1), 240, 0);
        });
        Words.test(14, "the ROW: the shift (of equal ones the least in size, then the lesser).", () -> {
            HallGlass x = oneMarkEach(510, 0);
            Due.is("-10 and all below", x, x.right(0, 1), 1, -10);
            x = oneMarkEach(490, 999);
            Due.is("11 and all above", x, x.right(0, 1), 1, 11);
            x = oneMarkEach(500, 0);
            Due.is("0 and all below", x, x.right(0, 1), 1, 0);
            // two DAYS, AIR 495 and 505: with -5 the MARK 500 is reached on both, with 6 on none
            HallGlass y = new HallGlass();
            y.glass(0, 0, 0);
            y.glass(0, 0, 40);
            y.tap(1, false);
            Due.airs(y, 505, 495);
            y.mark(0, 500);
            y.mark(1, 505);
            Due.is("the other one shows 505 on both", y, y.right(0, 1), 2, -5);
            Due.is("0 is as good as any", y, y.right(1, 1), 2, 0);
        });
        Words.test(14, "least in size, then the lesser", () -> {
            // the hand of the other one sticks: its WORDS are 2, 2, 0, 0, where those of the first are 2, 1, 0, 1,
            // with -10 (not with -9) 2, 2, 0, 2, with 10 (not with 9) 2, 0, 0, 0
            HallGlass x = new HallGlass();
            Due.airs(x, 540, 500, 460, 500);
            x.glass(0, 0, 0);
            x.glass(0, 0, 40);
            x.tap(1, false);
            x.mark(0, 491);
            x.mark(0, 510);
            x.mark(1, 480);
            x.mark(1, 520);
            Due.is("-10 and 10 alike", x, x.right(0, 1), 3, -10);
        });
        Words.test(14, "NONE: none such.", () -> {
            Twin.bounds(-1, "right", Twin.args(0, 1), 0, 0, 2);
            Twin.bounds(-1, "right", Twin.args(0, 1), 1, 0, 2);
            Twin.refuses(Twin::full, -1, "right", 4, 0);
            Twin.refuses(Twin::full, -1, "right", 0, 4);
            Due.is("no GLASS at all", new HallGlass().right(0, 0), -1);
        });
    }

    /** The WORD of GLASS i is 1 on DAYS whose AIR is marks[i] or more. */
    private static HallGlass glasses(int... marks) {
        HallGlass x = new HallGlass();
        for (int i = 0; i < marks.length; i++) {
            x.glass(0, 0, 0);
            x.mark(i, marks[i]);
        }
        return x;
    }

    private static void whose() {
        Words.test(15, "Of three unlike GLASSES the one that most often alone has another WORD than both others, who have the same;", () -> {
            HallGlass x = glasses(500, 400, 600, 700);
            Due.airs(x, 450, 450, 550, 650);
            Due.is("whose(0, 1, 2)", x, x.whose(0, 1, 2), 1, 2);
            Due.is("whose(2, 0, 1)", x, x.whose(2, 0, 1), 1, 2);
            Due.is("whose(3, 2, 1)", x, x.whose(3, 2, 1), 1, 3);
            Due.is("whose(0, 3, 2)", x, x.whose(0, 3, 2), 0, 1);
            for (int[] told : new int[][] {{0, 1, 2}, {1, 2, 0}, {2, 0, 1}}) {
                HallGlass z = glasses(501, 500, 500);
                Due.airs(z, 500);
                Due.is("one MARK one above, two just there", z, z.whose(told[0], told[1], told[2]), 0, 1);
                z = glasses(500, 501, 501);
                Due.airs(z, 500);
                Due.is("one MARK just there, two one above", z, z.whose(told[0], told[1], told[2]), 0, 1);
            }
            HallGlass y = new HallGlass();
            for (int g = 0; g < 3; g++) {
                y.glass(0, 0, 0);
                for (int i = 0; i < g; i++) {
                    y.mark(g, i);
                }
            }
            Due.airs(y, 500, 600);
            Due.is("all three have another one", y.whose(0, 1, 2), -2);
        });
        Words.test(15, "of equal ones the first as told:", () -> {
            HallGlass x = glasses(500, 400, 600);
            Due.airs(x, 450, 550);
            Due.is("whose(0, 1, 2)", x, x.whose(0, 1, 2), 1, 1);
            Due.is("whose(0, 2, 1)", x, x.whose(0, 2, 1), 2, 1);
            Due.is("whose(2, 1, 0)", x, x.whose(2, 1, 0), 2, 1);
            Due.is("whose(1, 2, 0)", x, x.whose(1, 2, 0), 1, 1);
            Due.is("whose(2, 0, 1)", x, x.whose(2, 0, 1), 2, 1);
            Due.is("whose(1, 0, 2)", x, x.whose(1, 0, 2), 1, 1);
        });
        Words.test(15, "the ROW: on how many DAYS.", () -> {
            HallGlass x = glasses(500, 400, 400);
            Due.airs(x, 399, 500);
            Due.is("on none", x.whose(0, 1, 2), -2);
            for (int i = 1; i <= 238; i++) {
                x.day(0, 499, 0);
                if (i == 1 || i == 238) {
                    Due.is("on " + i, x, x.whose(2, 1, 0), 0, i);
                }
            }
        });
        Words.test(15, "-2: on none;", () -> {
            HallGlass x = glasses(500, 500, 500);
            x.hedge(70, 1);
            Due.is("without DAYS", x, x.whose(0, 1, 2), -2, 3000, 4200);
            Due.airs(x, 500, 499);
            Due.is("all alike", x, x.whose(0, 1, 2), -2, 3000, 4200);
            Twin.refuses(() -> glasses(500, 500, 500), -2, "whose", 0, 1, 2);
        });
        Words.test(15, "NONE: others.", () -> {
            Object[] right = Twin.args(0, 1, 2);
            for (int place = 0; place < 3; place++) {
                Twin.beyond(-1, "whose", right, place, 0, 2);
            }
            int[][] same = {{0, 0, 1}, {0, 1, 0}, {1, 0, 0}, {2, 2, 2}};
            for (int[] a : same) {
                Twin.refuses(-1, "whose", a[0], a[1], a[2]);
            }
            HallGlass x = glasses(500, 500, 500);
            Due.is("not unlike ones, on none", x.whose(0, 1, 1), -1);
            Due.is("no such one, on none", x.whose(0, 1, 3), -1);
        });
    }
}
