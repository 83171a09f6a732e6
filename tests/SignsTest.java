/** Promises 16 to 25. */
public final class SignsTest {
    public static void main(String[] args) {
        sign();
        end();
        omenStands();
        omenWrong();
        omenLong();
        omenAfterOmen();
        omenRefused();
        value();
        letters();
        table();
        says();
        lot();
        lotOfMany();
        fails();
        beast();
        holds();
        Due.end();
    }

    private static void sign() {
        HallGlass x = Due.week();
        for (int i = 4; i <= 60; i += 4) {
            Due.is("sign " + i, x.sign(0), i);
        }
        Due.is("sign 64", x.sign(0), -1);
        Due.is("count(7)", x.count(7), 60);
        x.end(57);
        Due.is("sign 61", x.sign(0), -1);
        x.end(56);
        Due.is("sign 60 again", x.sign(-1), 60);
        x.end(0);
        x.sign('9' << 24 | '-' << 16 | '2' << 8 | '-');
        x.sign('1' << 24 | 0x80FFFF);
        x.end(5);
        Due.is("omen of 9-2-1", x.omen(0), 0);
        Due.is("its value", x.value(0, 0), 6);
    }

    private static void end() {
        HallGlass x = new HallGlass();
        Due.is("end(0) of none", x.end(0), true);
        Due.is("end(1) of none", x.end(1), false);
        x.sign(1);
        Due.is("end(-1)", x.end(-1), false);
        Due.is("end(5)", x.end(5), false);
        Due.is("count(7)", x.count(7), 4);
        Due.is("end(4)", x.end(4), true);
        Due.is("count(7) then", x.count(7), 4);
        Due.is("end(3)", x.end(3), true);
        Due.is("end(4) then", x.end(4), false);
        Due.is("count(7) at last", x.count(7), 3);
    }

    private static void omenStands() {
        String[] texts = {"w", "000", "999", "7", "!-!-!!--w", "1+-2", "1-!2", "(1<2)<3", "1<(2>3)", "1<2&3<4",
            "1<2|3<4|5=6&7>8", "(((((1)))))", "(((((1)))))+(((((2)))))", "(1)+(2)+(3)+(4)+(5)+(6)+(7)", "!(1)",
            "-(1)-(-(2))", "d", "p<400&f>5|t=y&k+d>12", "11" + "+1".repeat(19),
            "!".repeat(39) + "1", "(1<2)=(2<1)", "1|2|3&4&5"};
        for (String text : texts) {
            HallGlass x = Due.week();
            Due.is("omen of " + text, Due.omen(x, 0, text), 0);
            Due.is("count(2)", x.count(2), 1);
            Due.is("count(7)", x.count(7), 0);
        }
    }

    private static void checkWrong(String text, int place) {
        HallGlass x = Due.week();
        Due.is("omen of " + text, Due.omen(x, 0, text), -1 - place);
        Due.is("count(7) behind " + text, x.count(7), 0);
        Due.is("count(2) behind " + text, x.count(2), 0);
    }

    private static void omenWrong() {
        checkWrong("", 0);
        checkWrong("w+", 2);
        checkWrong("ww", 1);
        checkWrong("w1", 1);
        checkWrong("1w", 1);
        checkWrong("1+w2", 3);
        checkWrong("1+(2)3", 5);
        checkWrong("1234", 3);
        checkWrong("0000", 3);
        checkWrong("1+1234", 5);
        checkWrong("12 ", 2);
        checkWrong(" 12", 0);
        checkWrong("1<2<3", 3);
        checkWrong("1<2=3", 3);
        checkWrong("1=2>3", 3);
        checkWrong("1<2+3>4", 5);
        checkWrong("(1<2)<3<4", 7);
        checkWrong("1<(2<3)<4", 7);
        checkWrong("1&2=3=4", 5);
        checkWrong("(1<2<3)", 4);
        checkWrong("((((((1", 5);
        checkWrong("(((((1))))))", 11);
        checkWrong("1+(((((w|(2", 9);
        checkWrong("()", 1);
        checkWrong(")", 0);
        checkWrong("1)", 1);
        checkWrong("(1", 2);
        checkWrong("(1+2", 4);
        checkWrong("((1)", 4);
        checkWrong("(1)(2)", 3);
        checkWrong("(1)2", 3);
        checkWrong("(1)w", 3);
        checkWrong("w(", 1);
        checkWrong("2(", 1);
        checkWrong("!", 1);
        checkWrong("-", 1);
        checkWrong("1-", 2);
        checkWrong("1!2", 1);
        checkWrong("+1", 0);
        checkWrong("1++1", 2);
        checkWrong("1==2", 2);
        checkWrong("1<=2", 2);
        checkWrong("1&&2", 2);
        checkWrong("1|&", 2);
        checkWrong("|1", 0);
        checkWrong("1<", 2);
        checkWrong("(|", 1);
        checkWrong("W", 0);
        checkWrong("a", 0);
        checkWrong("1*2", 1);
        checkWrong("~1", 0);
        checkWrong("1~", 1);
        checkWrong("\u00e9", 0);
        checkWrong("1+\u00ff", 2);
        checkWrong("1+\u0000", 2);
    }

    private static void omenLong() {
        HallGlass x = Due.week();
        Due.is("40 signs", Due.omen(x, 0, "11" + "+1".repeat(19)), 0);
        Due.is("its value", x.value(0, 0), 30);
        checkWrong("1" + "+1".repeat(20), 40);
        checkWrong("1+".repeat(20), 40);
        checkWrong("1+".repeat(20) + "1", 40);
        checkWrong("1+".repeat(20) + "+", 40);
        checkWrong("11" + "+1".repeat(19) + "*", 40);
        checkWrong("1+".repeat(19) + "(", 39);
        checkWrong("1+".repeat(19) + "(1", 40);
        checkWrong("1+".repeat(19) + "(1)", 40);
        checkWrong("1+".repeat(29) + "1", 40);
        checkWrong("1+".repeat(2) + "+" + "1+".repeat(25), 4);
        checkWrong("1+".repeat(19) + "1*" + "1", 39);
        checkWrong("!".repeat(60), 40);
        checkWrong("!".repeat(40), 40);
        checkWrong("x" + "1".repeat(59), 0);
    }

    /** What was read of an earlier text leaves nothing behind. */
    private static void omenAfterOmen() {
        HallGlass x = Due.week();
        String[] wrong = {"((1", "((((((1", "1+2+(", "1<2<3", "(1<(2=", "12+", "!".repeat(40), "((((("};
        for (String text : wrong) {
            Due.omen(x, 0, text);
        }
        Due.is("a right one behind wrong ones", Due.omen(x, 0, "(((((1<2)))))=(1|0)"), 0);
        Due.is("its value", x.value(0, 0), 1);
        Due.is("40 signs behind others", Due.omen(x, 0, "!".repeat(39) + "0"), 1);
        Due.is("its value", x.value(1, 0), 1);
        Due.is("again", Due.omen(x, 0, "-".repeat(38) + "17"), 2);
        Due.is("its value", x.value(2, 0), 17);
        Due.is("a short one", Due.omen(x, 0, "5"), 3);
        Due.is("its value", x.value(3, 0), 5);
        Due.is("the first one's", x.value(0, 0), 1);
    }

    private static void omenRefused() {
        HallGlass x = new HallGlass();
        Due.is("omen without a GLASS", Due.omen(x, 0, "w"), -100);
        Due.is("count(7) then", x.count(7), 0);
        x.glass(0, 0, 0);
        Due.is("omen(-1)", Due.omen(x, -1, "w"), -100);
        Due.is("omen(1) of a wrong text", Due.omen(x, 1, "+"), -100);
        for (int i = 0; i < 10; i++) {
            Due.is("omen " + i, Due.omen(x, 0, Integer.toString(i)), i);
        }
        Due.is("omen 10", Due.omen(x, 0, "w"), -100);
        Due.is("omen 10 of a wrong text", Due.omen(x, 0, "+"), -100);
        Due.is("count(2)", x.count(2), 10);
        x.day(0, 0, 0);
        for (int i = 0; i < 10; i++) {
            Due.is("value(" + i + ", 0)", x.value(i, 0), i);
        }
    }

    private static void checkValue(String text, int value) {
        HallGlass x = Due.week();
        int sign = Due.omen(x, 0, text);
        Due.is("omen of " + text, sign, 0);
        Due.is("value of " + text, sign == 0 ? x.value(0, 3) : -77777, value);
    }

    private static void value() {
        String[] texts = {"1|0&0", "(1|0)&0", "0&0|1", "0&(0|1)", "5&7", "5&0", "6|0", "0|0", "!3", "!0", "!!5",
            "-3+5", "7-2-1", "7-(2-1)", "1-2+3", "1+2=3", "!0+1", "!1<2", "!(1<2)", "-1<0", "0<1&1", "2>1|0", "--5",
            "-!0", "!-0", "3-!0", "1|2=5", "2<1+2", "2=2", "2=3", "3>2", "2>2", "2<2", "1-999-999", "1&2<1", "3=1+2&4",
            "007", "(1<2)<3", "2-1>0-1", "5--5", "1<2", "-5&1", "!-5", "(2|3)+(4&5)"};
        int[] values = {1, 0, 1, 0, 1, 0, 1, 0, 0, 1, 1,
            2, 4, 6, 2, 1, 2, 1, 0, 1, 1, 1, 5,
            -1, 1, 2, 1, 1, 1, 0, 1, 0, 0, -1997, 0, 1,
            7, 1, 1, 10, 1, 1, 0, 2};
        for (int i = 0; i < texts.length; i++) {
            checkValue(texts[i], values[i]);
        }
        HallGlass x = Due.week();
        Due.omen(x, 0, "d");
        Due.none("value(-1, 0)", () -> x.value(-1, 0));
        Due.none("value(1, 0)", () -> x.value(1, 0));
        Due.none("value(0, -1)", () -> x.value(0, -1));
        Due.none("value(0, 9)", () -> x.value(0, 9));
        Due.is("value(0, 8)", x.value(0, 8), 8);
    }

    private static void letters() {
        HallGlass x = new HallGlass();
        x.day(2, 500, 7);
        x.day(3, 470, 0);
        x.day(0, 480, 5);
        x.glass(100, 10, 15);
        x.mark(0, 380);
        x.mark(0, 405);
        String letters = "wpftykd";
        int[][] due = {{2, 410, 0, 2, 2, 7, 0}, {1, 380, 30, 3, 2, 0, 1}, {1, 390, -10, 0, 3, 5, 2}};
        for (int i = 0; i < 7; i++) {
            Due.is("omen of a letter", Due.omen(x, 0, letters.substring(i, i + 1)), i);
            for (int d = 0; d < 3; d++) {
                Due.is(letters.charAt(i) + " on " + d, x.value(i, d), due[d][i]);
            }
        }
        x.tap(0, false);
        Due.is("p of a glass that sticks", x.value(1, 2), 380);
        Due.is("f of a glass that sticks", x.value(2, 2), 0);
        x.mark(0, 381);
        Due.is("w with a MARK more", x.value(0, 0), 3);
        x.glass(0, 0, 0);
        Due.is("omen of another GLASS", Due.omen(x, 1, "p"), 7);
        Due.is("p of another GLASS", x.value(7, 2), 480);
        Due.is("p of the first", x.value(1, 0), 410);
    }

    private static HallGlass weekWithSigns() {
        HallGlass x = Due.week();
        Due.omen(x, 0, "k=1");
        Due.omen(x, 0, "!k");
        Due.omen(x, 0, "1");
        Due.omen(x, 0, "0");
        Due.omen(x, 0, "d=1");
        return x;
    }

    private static void table() {
        HallGlass x = weekWithSigns();
        Due.is("table(0, 2, 1)", x, x.table(0, 2, 1), 1, 1, 3, 2, 2);
        Due.is("table(1, 2, 1)", x, x.table(1, 2, 1), 2, 2, 2, 1, 3);
        Due.is("table(0, 1, 1)", x, x.table(0, 1, 1), 2, 2, 2, 3, 1);
        Due.is("table(0, 3, 1)", x, x.table(0, 3, 1), 0, 0, 4, 1, 3);
        Due.is("table(0, 2, 2)", x, x.table(0, 2, 2), 2, 2, 2, 2, 1);
        Due.is("table(2, 1, 8)", x, x.table(2, 1, 8), 1, 1, 0, 0, 0);
        Due.is("table(2, 1, 9)", x, x.table(2, 1, 9), 0, 0, 0, 0, 0);
        Due.is("table(-4, 2, 1) of a sign that is below 0", x, Due.omen(x, 0, "-k"), 5, 0, 0, 0, 0);
        Due.is("table(5, 2, 1)", x, x.table(5, 2, 1), 1, 1, 3, 2, 2);
        Due.is("table(6, 2, 1)", x, x.table(6, 2, 1), -1, 1, 3, 2, 2);
        Due.is("table(-1, 2, 1)", x, x.table(-1, 2, 1), -1, 1, 3, 2, 2);
        Due.is("table(0, 0, 1)", x, x.table(0, 0, 1), -1, 1, 3, 2, 2);
        Due.is("table(0, 4, 1)", x, x.table(0, 4, 1), -1, 1, 3, 2, 2);
        Due.is("table(0, 1, 0)", x, x.table(0, 1, 0), -1, 1, 3, 2, 2);
        Due.is("table(0, 1, 10)", x, x.table(0, 1, 10), -1, 1, 3, 2, 2);
    }

    private static void says() {
        HallGlass x = weekWithSigns();
        Due.is("says(0, 2, 1)", x, x.says(0, 2, 1), 2, 1, 4, 3, 8);
        Due.is("says(1, 2, 1)", x, x.says(1, 2, 1), 1, 1, 2, 3, 8);
        Due.is("says(2, 2, 1)", x, x.says(2, 2, 1), 0, 3, 8, 3, 8);
        Due.is("says(4, 2, 1)", x, x.says(4, 2, 1), 2, 0, 1, 3, 8);
        Due.is("says(0, 2, 2)", x, x.says(0, 2, 2), 2, 1, 2, 4, 7);
        Due.is("says(3, 2, 1)", x, x.says(3, 2, 1), -2, 1, 2, 4, 7);
        Due.is("says(2, 1, 9)", x, x.says(2, 1, 9), -2, 1, 2, 4, 7);
        Due.is("says(5, 2, 1)", x, x.says(5, 2, 1), -1, 1, 2, 4, 7);
        Due.is("says(-1, 2, 1)", x, x.says(-1, 2, 1), -1, 1, 2, 4, 7);
        Due.is("says(3, 4, 1)", x, x.says(3, 4, 1), -1, 1, 2, 4, 7);
        Due.is("says(3, 0, 1)", x, x.says(3, 0, 1), -1, 1, 2, 4, 7);
        Due.is("says(3, 2, 0)", x, x.says(3, 2, 0), -1, 1, 2, 4, 7);
        Due.is("says(3, 2, 10)", x, x.says(3, 2, 10), -1, 1, 2, 4, 7);
        HallGlass y = new HallGlass();
        Due.days(y, "000", "110");
        y.glass(0, 0, 0);
        Due.omen(y, 0, "k");
        Due.is("says of what never comes", y, y.says(0, 1, 1), 0, 0, 1, 0, 1);
    }

    private static void lot() {
        HallGlass x = weekWithSigns();
        Due.is("lot(0, 2, 1)", x, x.lot(0, 2, 1), 0, 13, 14);
        Due.is("lot(1, 2, 1)", x, x.lot(1, 2, 1), 0, 1, 2);
        Due.is("lot(2, 2, 1)", x, x.lot(2, 2, 1), 0, 1, 1);
        Due.is("lot(3, 2, 1)", x, x.lot(3, 2, 1), 0, 1, 1);
        Due.is("lot(4, 2, 1)", x, x.lot(4, 2, 1), 0, 1, 1);
        Due.omen(x, 0, "d=0|d=3");
        Due.is("lot(5, 2, 1)", x, x.lot(5, 2, 1), 0, 3, 28);
        Due.is("lot(0, 1, 9)", x, x.lot(0, 1, 9), -1, 3, 28);
        Due.is("lot(6, 2, 1)", x, x.lot(6, 2, 1), -1, 3, 28);
        Due.is("lot(-1, 2, 1)", x, x.lot(-1, 2, 1), -1, 3, 28);
        Due.is("lot(0, 0, 1)", x, x.lot(0, 0, 1), -1, 3, 28);
        Due.is("lot(0, 4, 1)", x, x.lot(0, 4, 1), -1, 3, 28);
        Due.is("lot(0, 2, 0)", x, x.lot(0, 2, 0), -1, 3, 28);
        Due.is("lot(0, 2, 10)", x, x.lot(0, 2, 10), -1, 3, 28);
    }

    /** Of 60 KNOWN DAYS, 30 with the EVENT, a sign that stands on just these. */
    private static void lotOfMany() {
        HallGlass x = new HallGlass();
        x.glass(0, 0, 0);
        for (int d = 0; d <= 60; d++) {
            x.day(d >= 1 && d <= 30 ? 1 : 0, 500, 0);
        }
        Due.omen(x, 0, "d<30");
        Due.omen(x, 0, "d>29");
        Due.omen(x, 0, "d<31");
        Due.is("lot of 30 of 30", x, x.lot(0, 1, 1), 0, 1, 118264581564861424L);
        Due.is("lot of 0 of 30", x, x.lot(1, 1, 1), 0, 1, 1);
        Due.is("lot of 30 of 31", x, x.lot(2, 1, 1), 0, 1, 3814986502092304L);
        x.day(0, 500, 0);
        Due.is("lot of 61", x, x.lot(0, 1, 1), -3, 1, 3814986502092304L);
        Due.is("lot of 61, c 4", x, x.lot(0, 4, 1), -1, 1, 3814986502092304L);
        Due.is("lot of 60 by k 2", x.lot(0, 1, 2), 0);
    }

    private static void fails() {
        HallGlass x = weekWithSigns();
        Due.is("fails(0, 2, 1)", x, x.fails(0, 2, 1), 3, 1, 4, 6);
        Due.is("fails(1, 2, 1)", x, x.fails(1, 2, 1), 2, 2, 5);
        Due.is("fails(3, 2, 1)", x, x.fails(3, 2, 1), 0);
        Due.is("fails(0, 3, 1): on DAY 0, too", x, x.fails(0, 3, 1), 4, 0, 1, 4, 6);
        Due.is("fails(0, 2, 2)", x, x.fails(0, 2, 2), 2, 1, 4);
        Due.is("fails(5, 2, 1)", x, x.fails(5, 2, 1), -1, 1, 4);
        Due.is("fails(-1, 2, 1)", x, x.fails(-1, 2, 1), -1, 1, 4);
        Due.is("fails(0, 4, 1)", x, x.fails(0, 4, 1), -1, 1, 4);
        Due.is("fails(0, 0, 1)", x, x.fails(0, 0, 1), -1, 1, 4);
        Due.is("fails(0, 2, 0)", x, x.fails(0, 2, 0), -1, 1, 4);
        Due.is("fails(0, 2, 10)", x, x.fails(0, 2, 10), -1, 1, 4);
        for (int i = 0; i < 40; i++) {
            x.day(0, 500, 1);
        }
        Due.is("fails on many", x, x.fails(0, 2, 1), 43, 1, 4, 6, 8, 9, 10, 11, 12, 13, 14, 15, 16, 17, 18, 19, 20, 21,
                22, 23, 24);
    }

    /** WORD 1 of glass 1 on DAYS 0 to 3, WORD 0 on 4 to 7. */
    private static void beast() {
        HallGlass x = new HallGlass();
        String weathers = "020130012";
        String skies = "110010101";
        for (int d = 0; d < 9; d++) {
            x.day(weathers.charAt(d) - '0', d < 4 ? 510 : 490, skies.charAt(d) - '0');
        }
        x.glass(0, 0, 0);
        x.glass(0, 0, 0);
        x.mark(1, 500);
        Due.omen(x, 0, "k=1");
        Due.omen(x, 0, "d=0");
        Due.omen(x, 0, "1");
        x.table(0, 2, 1);
        Due.is("beast(0, 1, 2)", x, x.beast(0, 1, 2), 1, 1, 3, 2, 2);
        Due.is("beast(0, 0, 2)", x, x.beast(0, 0, 2), 1, 1, 3, 2, 2);
        Due.is("beast(1, 1, 2)", x, x.beast(1, 1, 2), 2, 1, 3, 2, 2);
        Due.is("beast(2, 1, 2)", x, x.beast(2, 1, 2), 0, 1, 3, 2, 2);
        Due.is("beast(0, 1, 1)", x, x.beast(0, 1, 1), 2, 1, 3, 2, 2);
        for (int v = 1; v <= 7; v++) {
            x.mark(1, v);
        }
        Due.is("beast with WORDS 8 and 7", x, x.beast(1, 1, 2), 256, 1, 3, 2, 2);
        HallGlass y = new HallGlass();
        Due.days(y, "020130012", "110010101");
        y.glass(0, 0, 0);
        y.mark(0, 500);
        Due.omen(y, 0, "d=0");
        Due.is("beast of a MARK just at SHOWN", y.beast(0, 0, 2), 2);
        Due.is("beast(3, 1, 2)", x.beast(3, 1, 2), -1);
        Due.is("beast(-1, 1, 2)", x.beast(-1, 1, 2), -1);
        Due.is("beast(0, 2, 2)", x.beast(0, 2, 2), -1);
        Due.is("beast(0, -1, 2)", x.beast(0, -1, 2), -1);
        Due.is("beast(0, 1, 0)", x.beast(0, 1, 0), -1);
        Due.is("beast(0, 1, 4)", x.beast(0, 1, 4), -1);
    }

    private static void holds() {
        HallGlass x = weekWithSigns();
        Due.omen(x, 0, "d=0|d=3|d=6");
        Due.omen(x, 0, "d=2");
        Due.omen(x, 0, "d=3");
        Due.omen(x, 0, "d=6");
        Due.omen(x, 0, "d=0");
        x.table(0, 2, 1);
        Due.is("holds(0, 2, 1)", x, x.holds(0, 2, 1), 0, 1, 3, 2, 2);
        Due.is("holds(1, 2, 1)", x.holds(1, 2, 1), 8);
        Due.is("holds(5, 2, 1)", x.holds(5, 2, 1), 3);
        Due.is("holds(6, 2, 2)", x.holds(6, 2, 2), 2);
        Due.is("holds(7, 2, 2)", x.holds(7, 2, 2), 4);
        Due.is("holds(8, 2, 2)", x.holds(8, 2, 2), 8);
        Due.is("holds(9, 2, 2)", x.holds(9, 2, 2), 0);
        Due.is("holds(2, 1, 9)", x.holds(2, 1, 9), 0);
        Due.is("holds(2, 1, 8)", x.holds(2, 1, 8), 0);
        Due.is("holds(10, 2, 1)", x.holds(10, 2, 1), -1);
        Due.is("holds(-1, 2, 1)", x.holds(-1, 2, 1), -1);
        Due.is("holds(0, 0, 1)", x.holds(0, 0, 1), -1);
        Due.is("holds(0, 4, 1)", x.holds(0, 4, 1), -1);
        Due.is("holds(0, 2, 0)", x.holds(0, 2, 0), -1);
        Due.is("holds(0, 2, 10)", x.holds(0, 2, 10), -1);
    }
}
