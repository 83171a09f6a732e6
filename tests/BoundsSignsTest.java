/** Promises 16 to 25, sentence by sentence: what is just within a bound, just beyond it, empty, full. */
public final class BoundsSignsTest {
    public static void main(String[] args) throws Exception {
        Words.of(args[0]);
        sign();
        end();
        omen();
        omenWrong();
        omenRefused();
        value();
        table();
        says();
        saysWhat();
        lot();
        lotRefused();
        fails();
        beast();
        holds();
        Words.allOf(16, 25);
        Due.end();
    }

    /** The DAYS of Due.week(), with these SIGNS. */
    private static HallGlass week(String... signs) {
        HallGlass x = Due.week();
        for (String s : signs) {
            Due.omen(x, 0, s);
        }
        return x;
    }

    /** DAYS of AIR 500, SKY 0, with the sign "1" and one of these texts. */
    private static HallGlass days(String weathers, String sign) {
        HallGlass x = new HallGlass();
        x.glass(0, 0, 0);
        for (int d = 0; d < weathers.length(); d++) {
            x.day(weathers.charAt(d) - '0', 500, 0);
        }
        Due.omen(x, 0, sign);
        return x;
    }

    private static void refusedByEvent(String name, Object[] right, int c, int k) {
        Twin.bounds(-1, name, right, c, 1, 3);
        if (k >= 0) {
            Twin.bounds(-1, name, right, k, 1, 9);
        }
    }

    // ---- THE TEXT

    private static void sign() {
        Words.test(16, "Four signs come behind THE TEXT, of v the highest byte first: how many it has.", () -> {
            HallGlass x = week();
            Due.is("the first", x.sign('1' << 24 | '2' << 16 | '-' << 8 | '3'), 4);
            Due.is("the next", x.sign('-' << 24 | '4' << 16), 8);
            x.end(6);
            Due.is("omen of 12-3-4", x.omen(0), 0);
            Due.is("its value", x.value(0, 0), 5);
            // bytes of 128 and more are signs from 128 on, and stand nowhere
            for (int shift = 24; shift >= 0; shift -= 8) {
                int ones = '1' << 24 | '1' << 16 | '+' << 8 | '1';
                x.sign(ones & ~(255 << shift) | 0xB1 << shift);
                Due.is("a byte 0xB1 is not the sign 1", x.omen(0), -1 - (24 - shift) / 8);
            }
            Due.is("sign(-1)", x.sign(-1), 4);
            Due.is("sign(0)", x.sign(0), 8);
            Due.is("sign(least)", x.sign(Integer.MIN_VALUE), 12);
            Due.is("sign(greatest)", x.sign(Integer.MAX_VALUE), 16);
        });
        Words.test(16, "Refused: there would be more than 60.", () -> {
            for (int left = 0; left < 4; left++) {
                HallGlass x = new HallGlass();
                x.sign('+' << 24);
                x.end(left);
                for (int i = left + 4; i <= 60; i += 4) {
                    Due.is("sign", x.sign(0), i);
                }
                int full = left == 0 ? 60 : 56 + left;
                Due.is("count(7)", x.count(7), full);
                Due.is("beyond 60", x.sign(0), -1);
                Due.is("none of the four has come", x.count(7), full);
            }
            Twin.refuses(Twin::full, -1, "sign", 0);
            Twin.refuses(Twin::full, -1, "sign", '+' << 24);
        });
    }

    private static void end() {
        Words.test(17, "THE TEXT has its first n signs alone: true;", () -> {
            HallGlass x = week();
            Due.is("end(0) of an empty one", x.end(0), true);
            x.sign('1' << 24 | '2' << 16 | '3' << 8 | '4');
            Due.is("all of them", x.end(4), true);
            Due.is("count(7)", x.count(7), 4);
            Due.is("one less", x.end(3), true);
            Due.is("count(7)", x.count(7), 3);
            x.end(2);
            x.sign('+' << 24 | '7' << 16);
            x.end(4);
            Due.is("omen of 12+7", x.omen(0), 0);
            Due.is("its value", x.value(0, 0), 19);
            x.sign('1' << 24);
            Due.is("none of them", x.end(0), true);
            Due.is("count(7)", x.count(7), 0);
            HallGlass y = Twin.full();
            Due.is("all 60", y.end(60), true);
            Due.is("count(7)", y.count(7), 60);
        });
        Words.test(17, "false if it has not so many, or n is below 0.", () -> {
            Twin.bounds(false, "end", Twin.args(0), 0, 0, 3);
            Twin.refuses(Twin::full, false, "end", 61);
            Twin.refuses(Twin::full, false, "end", -1);
            HallGlass x = new HallGlass();
            Due.is("end(1) of an empty one", x.end(1), false);
            x.sign(0);
            x.end(2);
            Due.is("signs that were cut off don't come back", x.end(3), false);
        });
    }

    private static void omen() {
        Words.test(18, "THE TEXT, which is empty then, is a SIGN of a GLASS: its number.", () -> {
            HallGlass x = week();
            x.glass(100, 0, 0);
            for (int i = 0; i < 10; i++) {
                Due.is("omen " + i, Due.omen(x, i % 2, "p+" + i), i);
                Due.is("THE TEXT is empty", x.count(7), 0);
                Due.is("count(2)", x.count(2), i + 1);
            }
            for (int i = 0; i < 10; i++) {
                Due.is("value of " + i, x.value(i, 8), 500 - i % 2 * 100 + i);
            }
            // what was read of a wrong TEXT leaves nothing behind
            String[] wrong = {"(((((1", "(1+(2<", "7-7-7*", "!!!!(", "1234", "1<2<", "12x"};
            for (String text : wrong) {
                HallGlass y = week();
                Due.omen(y, 0, text);
                Due.is("a right one behind " + text, Due.omen(y, 0, "(((((1<2)))))+12"), 0);
                Due.is("its value", y.value(0, 0), 13);
                Due.omen(y, 0, text);
                Due.is("a short one behind " + text, Due.omen(y, 0, "3-2"), 1);
                Due.is("its value", y.value(1, 0), 1);
                Due.is("the first one's", y.value(0, 0), 13);
            }
        });
    }

    private static void wrong(String text, int place) {
        HallGlass x = week();
        Due.is("omen of " + text, Due.omen(x, 0, text), -1 - place);
        Due.is("THE TEXT behind " + text, x.count(7), 0);
        Due.is("SIGNS behind " + text, x.count(2), 0);
    }

    private static void stands(String text) {
        Due.is("omen of " + text, Due.omen(week(), 0, text), 0);
    }

    private static void omenWrong() {
        Words.test(18, "-1 - p: the sign at p can't stand there", () -> {
            wrong("+", 0);
            wrong("1+)", 2);
            wrong("w w", 1);
            wrong("1234+", 3);
            wrong("((((((", 5);
            wrong("1<2<", 3);
            wrong("1)", 1);
            wrong("7!", 1);
            wrong("x7", 0);
            wrong("7x", 1);
            wrong("!".repeat(39) + ")", 39);
            wrong("!".repeat(38) + "7x", 39);
            wrong("1+w2", 3);
            wrong("(1)2", 3);
            stands("!".repeat(38) + "77");
            HallGlass x = Twin.rich();
            HallGlass y = Twin.rich();
            Due.is("omen of 1+2)", Due.omen(x, 0, "1+2)"), -4);
            y.end(0);
            Twin.alike("omen of 1+2) behind which ", x, y);
        });
        Words.test(18, "(its end, if it ends too early;", () -> {
            wrong("", 0);
            wrong("1+", 2);
            wrong("(1", 2);
            wrong("(", 1);
            wrong("!-", 2);
            wrong("(((((1))))", 10);
            wrong("1<", 2);
            wrong("1&2|", 4);
            wrong("!".repeat(39), 39);
            wrong("!".repeat(40), 40);
            wrong("!".repeat(38) + "7+", 40);
        });
        Words.test(18, "40, if it has more and the first 40 could go on or end);", () -> {
            stands("!".repeat(39) + "7");
            wrong("!".repeat(39) + "77", 40);
            wrong("!".repeat(39) + "7)", 40);
            wrong("!".repeat(39) + "7x", 40);
            wrong("!".repeat(41), 40);
            wrong("!".repeat(60), 40);
            wrong("!".repeat(40) + "x", 40);
            wrong("!".repeat(39) + "(7)", 40);
            wrong("!".repeat(38) + "7+" + "7", 40);
            wrong("!".repeat(39) + "x" + "7", 39);
            wrong("!".repeat(20) + "x" + "!".repeat(39), 20);
            wrong("!".repeat(36) + "7777" + "7", 39);
        });
    }

    private static void omenRefused() {
        Words.test(18, "-100: no such GLASS, there are 10 (asked first).", () -> {
            HallGlass x = new HallGlass();
            Due.is("no GLASS at all", Due.omen(x, 0, "w"), -100);
            Due.is("SIGNS", x.count(2), 0);
            for (int glass : new int[] {-1, 3, Integer.MIN_VALUE, Integer.MAX_VALUE}) {
                HallGlass y = Twin.rich();
                Due.is("omen(" + glass + ")", y.omen(glass), -100);
                Due.is("THE TEXT is empty", y.count(7), 0);
                HallGlass z = Twin.rich();
                y.end(0);
                z.end(0);
                Twin.alike("omen(" + glass + ") behind which ", y, z);
                Due.is("of a wrong TEXT", Due.omen(Twin.rich(), glass, "+"), -100);
                Due.is("of an empty TEXT", Due.omen(Twin.rich(), glass, ""), -100);
                Due.is("of a TEXT of 60", Due.omen(Twin.rich(), glass, "!".repeat(60)), -100);
            }
            HallGlass y = week();
            for (int i = 0; i < 9; i++) {
                Due.omen(y, 0, "" + i);
            }
            Due.is("a wrong one, while there are 9", Due.omen(y, 0, "+"), -1);
            Due.is("the last", Due.omen(y, 0, "9"), 9);
            Due.is("one more", Due.omen(y, 0, "9"), -100);
            Due.is("a wrong one more", Due.omen(y, 0, "+"), -100);
            Due.is("an empty one more", Due.omen(y, 0, ""), -100);
            Due.is("SIGNS", y.count(2), 10);
        });
    }

    private static void value() {
        Words.test(19, "The value of a SIGN's EXPRESSION on a DAY.", () -> {
            HallGlass x = week("d", "-d", "k");
            Due.is("on the first DAY", x.value(0, 0), 0);
            Due.is("on the last", x.value(0, 8), 8);
            Due.is("-1 is a value as others are", x.value(1, 1), -1);
            Due.is("SKY", x.value(2, 8), 1);
            x.day(0, 0, 5);
            Due.is("on a DAY more", x.value(2, 9), 5);
        });
        Words.test(19, "NoSuchElementException: none such.", () -> {
            Twin.bounds(Twin.THROWS, "value", Twin.args(0, 0), 0, 0, 2);
            Twin.bounds(Twin.THROWS, "value", Twin.args(0, 0), 1, 0, 10);
            Twin.refuses(Twin::full, Twin.THROWS, "value", 10, 0);
            Twin.refuses(Twin::full, Twin.THROWS, "value", 0, 240);
            HallGlass x = new HallGlass();
            x.glass(0, 0, 0);
            Due.none("no SIGN at all", () -> x.value(0, 0));
            Due.omen(x, 0, "1");
            Due.none("without DAYS", () -> x.value(0, 0));
        });
    }

    // ---- what came behind a SIGN

    private static void table() {
        Words.test(20, "On how many KNOWN DAYS a SIGN STANDS and the EVENT comes;", () -> {
            HallGlass x = week("k=1", "d>6", "d=8");
            Due.is("k 1", x.table(0, 2, 1), 1);
            Due.is("k 2", x.table(0, 2, 2), 2);
            Due.is("the last KNOWN DAY", x.table(1, 2, 1), 1);
            Due.is("it is not KNOWN by k 2", x.table(1, 2, 2), 0);
            Due.is("it is not KNOWN by k 1", x.table(2, 1, 1), 0);
            Due.is("without DAYS", days("", "1").table(0, 1, 1), 0);
            Due.is("of one DAY", days("3", "1").table(0, 1, 1), 0);
            Due.is("of two", days("03", "1").table(0, 3, 1), 1);
            Due.is("of 240", days("3".repeat(240), "1").table(0, 3, 1), 239);
            Due.is("of 240, k 9", days("3".repeat(240), "1").table(0, 1, 9), 231);
        });
        Words.test(20, "the ROW: this, it STANDS and it does not come, it comes without, neither.", () -> {
            HallGlass x = week("k=1", "1", "0");
            Due.is("each of them", x, x.table(0, 2, 1), 1, 1, 3, 2, 2);
            Due.is("it STANDS always", x, x.table(1, 2, 1), 3, 3, 5, 0, 0);
            Due.is("it STANDS never", x, x.table(2, 2, 1), 0, 0, 0, 3, 5);
            Due.is("no KNOWN DAYS", x, x.table(0, 2, 9), 0, 0, 0, 0, 0);
            Due.is("one KNOWN DAY", x, x.table(0, 2, 8), 1, 1, 0, 0, 0);
        });
        Words.test(20, "NONE: others.", () -> {
            Object[] right = Twin.args(0, 2, 1);
            Twin.bounds(-1, "table", right, 0, 0, 2);
            refusedByEvent("table", right, 1, 2);
            Twin.refuses(Twin::full, -1, "table", 10, 2, 1);
            Due.is("no SIGN at all", Due.week().table(0, 2, 1), -1);
        });
    }

    private static void says() {
        Words.test(21, "What a SIGN says: the ROW: of KNOWN DAYS on which it STANDS how many have the EVENT (a fraction), then of all KNOWN DAYS.", () -> {
            HallGlass x = week("k=1", "!k", "1", "d=8|d=0");
            Due.is("1 of 4, 3 of 8", x, x.says(0, 2, 1), 2, 1, 4, 3, 8);
            Due.is("2 of 4, 3 of 8", x, x.says(1, 2, 1), 1, 1, 2, 3, 8);
            Due.is("all alike", x, x.says(2, 2, 1), 0, 3, 8, 3, 8);
            Due.is("a DAY that is not KNOWN aside", x, x.says(3, 2, 1), 1, 1, 1, 3, 8);
            Due.is("one KNOWN DAY", x, x.says(2, 2, 8), 0, 1, 1, 1, 1);
            HallGlass y = days("00000", "1");
            Due.is("0 of 4 and of all", y, y.says(0, 1, 1), 0, 0, 1, 0, 1);
        });
    }

    private static void saysWhat() {
        Words.test(21, "1 the first is more, 2 less, 0 alike;", () -> {
            // behind DAYS 0, 3, 7 of 0 .. 7 the EVENT comes: 3 of 8; 1 of 2 is more, 1 of 3 less, 3 of 8 alike
            HallGlass x = week("d=0|d=1", "d<3", "1", "d=1", "d=0", "d<7");
            Due.is("1 of 2", x, x.says(0, 2, 1), 1, 1, 2, 3, 8);
            Due.is("1 of 3", x, x.says(1, 2, 1), 2, 1, 3, 3, 8);
            Due.is("3 of 8", x, x.says(2, 2, 1), 0, 3, 8, 3, 8);
            Due.is("0 of 1", x, x.says(3, 2, 1), 2, 0, 1, 3, 8);
            Due.is("1 of 1", x, x.says(4, 2, 1), 1, 1, 1, 3, 8);
            Due.is("2 of 7", x, x.says(5, 2, 1), 2, 2, 7, 3, 8);
            HallGlass y = days("00000", "1");
            Due.is("0 of 4", y, y.says(0, 1, 1), 0, 0, 1, 0, 1);
            HallGlass z = days("010101", "d<2");
            Due.omen(z, 0, "d<4");
            // 3 of 5; 1 of 2 less
            Due.is("1 of 2, 3 of 5", z, z.says(0, 1, 1), 2, 1, 2, 3, 5);
            Due.is("2 of 4, 3 of 5", z, z.says(1, 1, 1), 2, 1, 2, 3, 5);
        });
        Words.test(21, "-2: it STANDS on none;", () -> {
            HallGlass x = week("0", "d=8", "1");
            x.hedge(70, 1);
            Due.is("never", x, x.says(0, 2, 1), -2, 3000, 4200);
            Due.is("not on a KNOWN DAY", x, x.says(1, 2, 1), -2, 3000, 4200);
            Due.is("no KNOWN DAYS", x, x.says(2, 2, 9), -2, 3000, 4200);
            Due.is("without DAYS", days("", "1").says(0, 1, 1), -2);
            Twin.refuses(() -> week("0"), -2, "says", 0, 2, 1);
        });
        Words.test(21, "NONE: others.", () -> {
            Object[] right = Twin.args(0, 2, 1);
            Twin.bounds(-1, "says", right, 0, 0, 2);
            refusedByEvent("says", right, 1, 2);
            Twin.refuses(Twin::full, -1, "says", 10, 2, 1);
            Due.is("no SIGN at all", Due.week().says(0, 2, 1), -1);
        });
    }

    private static void lot() {
        Words.test(22, "By lot: of all ways to choose as many KNOWN DAYS as the SIGN STANDS on, in how many at least as many have the EVENT:"
                + " the ROW: that share as a fraction.", () -> {
            // of 8 KNOWN DAYS 3 have the EVENT
            HallGlass x = week("d=0", "d=1", "d=0|d=3", "d=0|d=1", "d=0|d=3|d=7", "1", "0", "d<7", "d=8");
            Due.is("1 of 1: 3 of 8", x, x.lot(0, 2, 1), 0, 3, 8);
            Due.is("0 of 1: all", x, x.lot(1, 2, 1), 0, 1, 1);
            Due.is("2 of 2: 3 of 28", x, x.lot(2, 2, 1), 0, 3, 28);
            Due.is("1 of 2: 18 of 28", x, x.lot(3, 2, 1), 0, 9, 14);
            Due.is("3 of 3: 1 of 56", x, x.lot(4, 2, 1), 0, 1, 56);
            Due.is("it STANDS always", x, x.lot(5, 2, 1), 0, 1, 1);
            Due.is("it STANDS never", x, x.lot(6, 2, 1), 0, 1, 1);
            Due.is("2 of 7: 8 of 8", x, x.lot(7, 2, 1), 0, 1, 1);
            Due.is("not on a KNOWN DAY", x, x.lot(8, 2, 1), 0, 1, 1);
            Due.is("of one KNOWN DAY", x, x.lot(5, 2, 8), 0, 1, 1);
            HallGlass y = days("0".repeat(10) + "1".repeat(10), "d<5");
            Due.omen(y, 0, "d>8");
            // 19 KNOWN DAYS, 10 have the EVENT; 10 of 10: 1 of 92378
            Due.is("0 of 5", y, y.lot(0, 1, 1), 0, 1, 1);
            Due.is("10 of 10", y, y.lot(1, 1, 1), 0, 1, 92378);
        });
        Words.test(22, "0;", () -> {
            HallGlass x = week("1");
            Due.is("lot", x.lot(0, 2, 1), 0);
        });
        Words.test(22, "-3: more than 60 KNOWN DAYS;", () -> {
            HallGlass x = days("1".repeat(30) + "0".repeat(31), "d<29");
            Due.is("60, by k 1: 29 of 29", x, x.lot(0, 1, 1), 0, 1, 114449595062769120L);
            x.day(0, 500, 0);
            Due.is("61", x, x.lot(0, 1, 1), -3, 1, 114449595062769120L);
            Due.is("60 by k 2", x.lot(0, 1, 2), 0);
            Twin.refuses(Twin::full, -3, "lot", 0, 1, 1);
            Due.is("239", Twin.full().lot(0, 1, 1), -3);
            // half of 60 have the EVENT, the sign STANDS on half of them, on each of those: the most ways there are
            HallGlass y = days("0".repeat(31) + "1".repeat(30), "d>29");
            Due.is("30 of 30 of 60", y, y.lot(0, 1, 1), 0, 1, 118264581564861424L);
            Due.omen(y, 0, "d<30");
            Due.is("0 of 30 of 60", y, y.lot(1, 1, 1), 0, 1, 1);
            Due.omen(y, 0, "d<31&d");
            Due.is("1 of 30 of 60", y, y.lot(2, 1, 1), 0, 118264581564861423L, 118264581564861424L);
        });
    }

    private static void lotRefused() {
        Words.test(22, "NONE: others, no KNOWN DAYS.", () -> {
            Object[] right = Twin.args(0, 2, 1);
            Twin.bounds(-1, "lot", right, 0, 0, 2);
            refusedByEvent("lot", right, 1, 2);
            Twin.refuses(Twin::full, -1, "lot", 10, 2, 1);
            Twin.refuses(() -> week("1"), -1, "lot", 0, 2, 9);
            Due.is("one KNOWN DAY", week("1").lot(0, 2, 8), 0);
            Due.is("without DAYS", days("", "1").lot(0, 1, 1), -1);
            Due.is("of one DAY", days("0", "1").lot(0, 1, 1), -1);
            Due.is("no SIGN at all", Due.week().lot(0, 2, 1), -1);
        });
    }

    private static void fails() {
        Words.test(23, "A saying: behind a SIGN the EVENT always comes: on how many KNOWN DAYS it did not, though the SIGN STOOD;", () -> {
            HallGlass x = week("k=1", "d=0|d=3", "d=8", "0", "d=1|d=2");
            Due.is("three", x.fails(0, 2, 1), 3);
            Due.is("of the SIGN that is told", x, x.fails(4, 2, 1), 2, 1, 2);
            Due.is("k 2: two", x.fails(0, 2, 2), 2);
            Due.is("it always came", x.fails(1, 2, 1), 0);
            Due.is("not on a KNOWN DAY", x.fails(2, 2, 1), 0);
            Due.is("it STOOD never", x.fails(3, 2, 1), 0);
            Due.is("no KNOWN DAYS", x.fails(0, 2, 9), 0);
            Due.is("without DAYS", days("", "1").fails(0, 1, 1), 0);
            Due.is("of 240", days("0".repeat(240), "1").fails(0, 1, 1), 239);
        });
        Words.test(23, "the ROW: the first 20.", () -> {
            for (int n = 0; n <= 22; n++) {
                HallGlass x = days("1" + "0".repeat(n) + "1", "1");
                // behind the last DAY but one the EVENT comes
                long[] row = new long[Math.max(0, Math.min(20, n))];
                for (int i = 0; i < row.length; i++) {
                    row[i] = i;
                }
                Due.is("of " + n, x, x.fails(0, 1, 1), n, row);
            }
            HallGlass y = week("k=1");
            Due.is("three", y, y.fails(0, 2, 1), 3, 1, 4, 6);
        });
        Words.test(23, "NONE: others.", () -> {
            Object[] right = Twin.args(0, 2, 1);
            Twin.bounds(-1, "fails", right, 0, 0, 2);
            refusedByEvent("fails", right, 1, 2);
            Twin.refuses(Twin::full, -1, "fails", 10, 2, 1);
            Due.is("no SIGN at all", Due.week().fails(0, 2, 1), -1);
        });
    }

    private static void beast() {
        Words.test(24, "WORDS of a GLASS for which, on KNOWN DAYS with that WORD, a SIGN and the EVENT (c, 1) are not just as often together"
                + " as by themselves (how often together times all such DAYS is not how often the one times how often the other): bits.", () -> {
            // without MARKS: WORD 0 alone; 1 of 8 together, the one 4, the other 3: 8 is not 12
            HallGlass x = week("k=1", "1", "0", "d=8", "k=1&d<4|d=2|d=4");
            Due.is("less often", x.beast(0, 0, 2), 1);
            Due.is("always", x.beast(1, 0, 2), 0);
            Due.is("never", x.beast(2, 0, 2), 0);
            Due.is("not on a KNOWN DAY", x.beast(3, 0, 2), 0);
            // (3, 1) comes behind DAY 3 alone; on 0, 1, 2, 4 it STANDS: 0 is not 4
            Due.is("never together", x.beast(4, 0, 3), 1);
            HallGlass y = days("0101", "d=0|d=1");
            // 3 KNOWN DAYS: it comes behind 0, 2; together 1: 3 is not 4
            Due.is("just not as often", y.beast(0, 0, 1), 1);
            HallGlass z = days("01010", "d=0|d=1");
            // 4 KNOWN DAYS: 1 times 4 is 2 times 2
            Due.is("just as often", z.beast(0, 0, 1), 0);
            Due.is("without DAYS", days("", "1").beast(0, 0, 1), 0);
            y.mark(0, 501);
            Due.is("a MARK one above", y.beast(0, 0, 1), 1);
            y.mark(0, 500);
            Due.is("a MARK just there", y.beast(0, 0, 1), 2);
            HallGlass w = new HallGlass();
            w.glass(0, 0, 0);
            for (int i = 1; i <= 8; i++) {
                w.mark(0, 100 * i);
            }
            // each WORD on two DAYS: the EVENT behind one of them, the sign on the same
            for (int d = 0; d < 18; d++) {
                w.day(d % 2, 50 + d / 2 * 100, d % 2);
            }
            w.day(0, 0, 0);
            Due.omen(w, 0, "!k");
            Due.is("all nine WORDS", w.beast(0, 0, 1), 511);
            w.keep(0);
            w.run(1);
            w.again(0);
            Due.is("again", w.beast(0, 0, 1), 511);
        });
        Words.test(24, "NONE: others.", () -> {
            Object[] right = Twin.args(0, 1, 2);
            Twin.bounds(-1, "beast", right, 0, 0, 2);
            Twin.bounds(-1, "beast", right, 1, 0, 2);
            refusedByEvent("beast", right, 2, -1);
            Twin.refuses(Twin::full, -1, "beast", 10, 0, 2);
            Twin.refuses(Twin::full, -1, "beast", 0, 4, 2);
            Due.is("no SIGN at all", Due.week().beast(0, 0, 2), -1);
        });
    }

    private static void holds() {
        Words.test(25, "The quarters (0 .. 3: of the numbers of all KNOWN DAYS, from q times all by 4, cut, on)", () -> {
            // n KNOWN DAYS, and a sign that STANDS on one of them, behind which alone in its quarter the EVENT comes
            for (int n = 1; n <= 13; n++) {
                for (int d = 0; d < n; d++) {
                    HallGlass x = days("0".repeat(d + 1) + "1" + "0".repeat(n - d - 1), "d=" + d);
                    int q = 0;
                    while (q < 3 && (q + 1) * n / 4 <= d) {
                        q++;
                    }
                    int size = (q + 1) * n / 4 - q * n / 4;
                    Due.is("DAY " + d + " of " + n, x.holds(0, 1, 1), size > 1 ? 1 << q : 0);
                }
            }
            Due.is("no KNOWN DAYS", days("0", "1").holds(0, 1, 1), 0);
            Due.is("without DAYS", days("", "1").holds(0, 1, 1), 0);
        });
        Words.test(25, "in which a SIGN says more (as says(), of the DAYS of the quarter alone): bits.", () -> {
            // quarters 0 1, 2 3, 4 5, 6 7; the EVENT comes behind 0, 3, 4 and 5, none of 6 and 7
            HallGlass x = days("010011100", "d=0|d=2|d=4|d=6");
            Due.is("more in the first, less in the second, alike in the others", x.holds(0, 1, 1), 1);
            Due.omen(x, 0, "d=3|d=5|d=7");
            Due.is("more in the second", x.holds(1, 1, 1), 2);
            Due.omen(x, 0, "1");
            Due.is("alike in all", x.holds(2, 1, 1), 0);
            Due.omen(x, 0, "0");
            Due.is("on none", x.holds(3, 1, 1), 0);
            HallGlass y = days("010101010", "d=0|d=2|d=4|d=6");
            Due.is("more in all", y.holds(0, 1, 1), 15);
            Due.omen(y, 0, "d=1|d=3|d=5|d=7");
            Due.is("less in all", y.holds(1, 1, 1), 0);
        });
        Words.test(25, "NONE: others.", () -> {
            Object[] right = Twin.args(0, 2, 1);
            Twin.bounds(-1, "holds", right, 0, 0, 2);
            refusedByEvent("holds", right, 1, 2);
            Twin.refuses(Twin::full, -1, "holds", 10, 2, 1);
            Due.is("no SIGN at all", Due.week().holds(0, 2, 1), -1);
        });
    }
}
