/** Promises 51 to 54, sentence by sentence: what is just within a bound, just beyond it, empty, full. */
public final class BoundsKeptTest {
    public static void main(String[] args) throws Exception {
        Words.of(args[0]);
        keep();
        again();
        againRefused();
        count();
        row();
        rowLengths();
        Words.allOf(51, 54);
        Due.end();
    }

    private static void keep() {
        Words.test(51, "How many DAYS there are, and R, are kept under a number 0 .. 2: true.", () -> {
            for (int i = 0; i <= 2; i++) {
                HallGlass x = new HallGlass();
                Due.is("no DAYS", x.keep(i), true);
                x.run(1);
                Due.is("again(" + i + ")", x.again(i), true);
                Due.is("count(0)", x.count(0), 0);
                Due.is("R", x.seed(5), 1);
                Due.is("kept anew", x.keep(i), true);
                x.seed(7);
                x.again(i);
                Due.is("R kept anew", x.seed(9), 5);
            }
            HallGlass x = new HallGlass();
            for (int i = 0; i <= 2; i++) {
                x.run(1);
                x.seed(i + 10);
                x.keep(i);
            }
            for (int i = 2; i >= 0; i--) {
                Due.is("again(" + i + ")", x.again(i), true);
                Due.is("count(0)", x.count(0), i + 1);
                Due.is("R", x.seed(0), i + 10);
            }
            HallGlass y = Twin.full();
            Due.is("240 DAYS", y.keep(0), true);
            Due.is("again(0)", y.again(0), true);
            Due.is("count(0)", y.count(0), 240);
        });
        Words.test(51, "Refused: others.", () -> {
            Twin.bounds(false, "keep", Twin.args(0), 0, 0, 2);
            Twin.refuses(Twin::full, false, "keep", 3);
            Twin.refuses(Twin::full, false, "keep", -1);
        });
    }

    private static void again() {
        Words.test(52, "DAYS behind those kept are gone, R is as it was.", () -> {
            HallGlass x = new HallGlass();
            x.run(100);
            x.keep(0);
            int r = x.seed(3);
            x.seed(r);
            x.run(100);
            x.run(40);
            int air = x.of(100, 1);
            int sky = x.of(239, 2);
            Due.is("again(0)", x.again(0), true);
            Due.is("count(0)", x.count(0), 100);
            Due.is("of(99, 0) is there", x.of(99, 0) >= 0, true);
            Due.is("of(100, 0) is gone", x.of(100, 0), -1);
            Due.is("there is room again", x.run(100), 200);
            Due.is("room for all", x.run(40), 240);
            Due.is("the same are MADE again", x.of(100, 1), air);
            Due.is("the same are MADE again", x.of(239, 2), sky);
            Due.is("again, as often as one likes", x.again(0), true);
            Due.is("again, with just as many DAYS", x.again(0), true);
            Due.is("R", x.seed(0), r);
            // all but DAYS and R stays as it is
            HallGlass y = Twin.rich();
            HallGlass z = Twin.rich();
            y.again(1);
            Twin.alike("again() with nothing gone behind which ", y, z);
        });
    }

    private static void againRefused() {
        Words.test(52, "Refused: nothing kept, there are fewer DAYS now.", () -> {
            HallGlass x = new HallGlass();
            for (int i = 0; i <= 2; i++) {
                Due.is("nothing kept yet", x.again(i), false);
            }
            x.keep(1);
            Due.is("nothing under 0", x.again(0), false);
            Due.is("nothing under 2", x.again(2), false);
            Due.is("under 1", x.again(1), true);
            Twin.refuses(false, "again", 2);
            Twin.beyond(false, "again", Twin.args(0), 0, 0, 2);
            // 4 DAYS kept under 0, then 3 there are, then 4
            HallGlass y = new HallGlass();
            y.run(3);
            y.keep(1);
            y.run(1);
            y.keep(0);
            y.again(1);
            int r = y.seed(6);
            y.seed(r);
            Due.is("one fewer", y.again(0), false);
            Due.is("R stays", y.seed(6), r);
            Due.is("count(0)", y.count(0), 3);
            y.day(3, 333, 3);
            Due.is("just as many", y.again(0), true);
            Due.is("the DAY told in between stays", y.of(3, 1), 333);
            Twin.refuses(BoundsKeptTest::fewerNow, false, "again", 0);
        });
    }

    /** Under 0 ten DAYS are kept, but now there are four. */
    private static HallGlass fewerNow() {
        HallGlass x = new HallGlass();
        x.run(4);
        x.keep(1);
        x.run(6);
        x.keep(0);
        x.again(1);
        return x;
    }

    private static void count() {
        Words.test(53, "What 0: DAYS, 1: GLASSES, 2: SIGNS, 3: PERSONS, 4: DAYS told by the office, 5: SEEN, 6: numbers of the ROW,"
                + " 7: signs of THE TEXT, 8: DAYS told of the other valley.", () -> {
            HallGlass x = new HallGlass();
            for (int what = 0; what <= 8; what++) {
                Due.is("none, count(" + what + ")", x.count(what), 0);
            }
            x = Twin.rich();
            int[] some = {11, 3, 3, 3, 6, 3, 4, 3, 6};
            for (int what = 0; what <= 8; what++) {
                Due.is("some, count(" + what + ")", x.count(what), some[what]);
            }
            x = Twin.full();
            int[] all = {240, 4, 10, 6, 0, 20, 4, 60, 0};
            for (int what = 0; what <= 8; what++) {
                Due.is("all, count(" + what + ")", x.count(what), all[what]);
            }
            HallGlass y = new HallGlass();
            for (int d = 0; d < 240; d++) {
                y.telling(d, 1);
                y.valley(d, 1);
            }
            Due.is("all, count(4)", y.count(4), 240);
            Due.is("all, count(8)", y.count(8), 240);
        });
        Words.test(53, "NONE for another what.", () -> {
            Twin.bounds(-1, "count", Twin.args(0), 0, 0, 8);
        });
    }

    private static void row() {
        Words.test(54, "Number i of the ROW.", () -> {
            HallGlass x = Due.week();
            Due.omen(x, 0, "k=1");
            x.table(0, 2, 1);
            Due.row("table()", x, 1, 3, 2, 2);
            Due.row("asked for again", x, 1, 3, 2, 2);
            x.hedge(70, 1);
            Due.row("shorter now", x, 3000, 4200);
            HallGlass y = new HallGlass();
            y.glass(0, 0, 0);
            for (int d = 0; d <= 60; d++) {
                y.day(d >= 1 && d <= 30 ? 1 : 0, 500, 0);
            }
            Due.omen(y, 0, "d<30");
            y.lot(0, 1, 1);
            Due.is("greater than an int", y.row(1), 118264581564861424L);
            HallGlass z = new HallGlass();
            z.glass(0, 0, 0);
            z.glass(0, 0, 0);
            z.day(0, 500, 0);
            z.mark(0, 501);
            z.mark(1, 1);
            z.right(0, 1);
            Due.row("below 0, as it is", z, -1);
        });
        Words.test(54, "NoSuchElementException: none such.", () -> {
            HallGlass x = new HallGlass();
            for (int i : new int[] {0, 1, -1, Integer.MIN_VALUE, Integer.MAX_VALUE}) {
                Due.none("none told yet, row(" + i + ")", () -> x.row(i));
            }
            Twin.bounds(Twin.THROWS, "row", Twin.args(0), 0, 0, 3);
            Twin.refuses(Twin::full, Twin.THROWS, "row", 4);
            HallGlass y = Twin.rich();
            y.fields(6);
            Due.is("no numbers", y.count(6), 0);
            Due.none("of no numbers, row(0)", () -> y.row(0));
        });
    }

    /** How many numbers each call tells; of a longer ROW told ahead nothing is left. */
    private static void rowLengths() {
        HallGlass x = Twin.rich();
        for (int d = 0; d < 50; d++) {
            x.day(0, 500, 0);
        }
        Due.omen(x, 0, "0");
        Object[][] calls = {{1, "right", 0, 1}, {1, "whose", 0, 1, 2}, {4, "table", 0, 2, 1}, {4, "says", 0, 2, 1}, {2, "lot", 0, 2, 1},
            {2, "line", 0}, {1, "blind", 0, 2, 1}, {2, "saved", 0, 1, 2, 1}, {1, "few", 0, 1, 0, 2, 1}, {2, "truly", 0, 1, 2, 1},
            {2, "level", 0, 0, 0, 2, 1}, {3, "remember", 0, 0, 1, 2}, {3, "drum", 0, 2, 1, 1}, {2, "mow", 0, 1},
            {3, "village", 0, 0, 1, 2}, {6, "elsewhere", 0, 2, 1}, {2, "worlds", 0, 1, 9, 2, 1, 1}, {3, "judge", 2, 0}, {0, "differ", 0, 0}, {0, "fails", 3, 1, 1},
            {7, "fields", 6}, {2, "hedge", 70, 0}, {1, "told", 5, 1}, {2, "sticks"}};
        for (Object[] call : calls) {
            x.fields(1);
            Due.is("the ROW of fields()", x.count(6), 20);
            Twin.answer(x, (String) call[1], java.util.Arrays.copyOfRange(call, 2, call.length));
            Due.is("numbers told by " + call[1], x.count(6), (int) call[0]);
        }
    }
}
