/** Each sentence of "Terms", by its own words: what is just within it and just beyond, empty, full, turning round. */
public final class BoundsTermsTest {
    public static void main(String[] args) throws Exception {
        Words.of(args[0]);
        days();
        made();
        madeAir();
        glasses();
        hands();
        marks();
        signs();
        strengths();
        things();
        letters();
        events();
        persons();
        bySigns();
        rows();
        rowsStay();
        refused();
        fractions();
        lastCall();
        Words.allOf(Words.TERMS, Words.TERMS);
        Due.end();
    }

    private static void test(String words, Runnable test) {
        Words.test(Words.TERMS, words, test);
    }

    // ---- 1: DAYS

    private static void days() {
        test("DAYS 0 .. (at most 240):", () -> {
            HallGlass x = new HallGlass();
            Due.is("no DAY yet, of(0, 0)", x.of(0, 0), -1);
            for (int d = 0; d < 240; d++) {
                Due.is("day " + d, x.day(0, d, 0), d);
            }
            Due.is("of(0, 1)", x.of(0, 1), 0);
            Due.is("of(239, 1)", x.of(239, 1), 239);
            Due.is("of(240, 1)", x.of(240, 1), -1);
            Due.is("day 240", x.day(0, 0, 0), -1);
            Due.is("run(1)", x.run(1), -1);
            Due.is("sheet of 1", x.sheet(2, 1, 0, 0, 0), -1);
            Due.is("count(0)", x.count(0), 240);
        });
        test("each has a WEATHER 0 .. 3 (the greater the worse), AIR 0 .. 999, SKY 0 .. 7.", () -> {
            HallGlass x = new HallGlass();
            for (int v = 0; v <= 3; v++) {
                Due.is("WEATHER " + v, x.day(v, 500, 0), v);
            }
            Due.is("WEATHER -1", x.day(-1, 500, 0), -1);
            Due.is("WEATHER 4", x.day(4, 500, 0), -1);
            Due.is("AIR 0", x.day(0, 0, 0), 4);
            Due.is("AIR 999", x.day(0, 999, 0), 5);
            Due.is("AIR -1", x.day(0, -1, 0), -1);
            Due.is("AIR 1000", x.day(0, 1000, 0), -1);
            Due.is("SKY 7", x.day(0, 500, 7), 6);
            Due.is("SKY -1", x.day(0, 500, -1), -1);
            Due.is("SKY 8", x.day(0, 500, 8), -1);
            x.glass(0, 0, 0);
            Due.omen(x, 0, "d=2");
            Due.is("behind DAY 2 comes one of 3 or more", x.table(0, 3, 1), 1);
            Due.omen(x, 0, "d=1");
            Due.is("behind DAY 1 comes none of 3 or more", x.table(1, 3, 1), 0);
        });
    }

    // ---- MADE

    private static long next(long r) {
        return (r * 1103515245L + 12345L) & 0xFFFFFFFFL;
    }

    private static long drawn(long r, int n) {
        return r / 65536 % n;
    }

    private static void made() {
        test("MADE: WEIGHTS 0 .. 9 of a WEATHER behind a WEATHER (at first 1 each),", () -> {
            for (int from = 0; from < 4; from++) {
                for (int to = 0; to < 4; to++) {
                    HallGlass x = new HallGlass();
                    Due.is("at first", x.weight(from, to, 0), 1);
                    Due.is("0", x.weight(from, to, 9), 0);
                    Due.is("10", x.weight(from, to, 10), -1);
                    Due.is("-1", x.weight(from, to, -1), -1);
                    Due.is("9", x.weight(from, to, 1), 9);
                }
            }
            // behind 1: 2, 0, 3, 1: of a DRAW of 6 the first two bring 0, the last brings 3
            int[] due = {0, 0, 2, 2, 2, 3};
            for (int seed = 0; seed < 100; seed++) {
                HallGlass x = new HallGlass();
                x.weight(1, 0, 2);
                x.weight(1, 1, 0);
                x.weight(1, 2, 3);
                x.day(1, 500, 0);
                x.seed(seed);
                x.run(1);
                Due.is("WEATHER by R " + seed, x.of(1, 0), due[(int) drawn(next(seed), 6)]);
                HallGlass y = new HallGlass();
                for (int to = 0; to < 4; to++) {
                    y.weight(0, to, 9);
                }
                y.seed(-seed);
                y.run(1);
                Due.is("WEATHER by R " + -seed + ", all 9", y.of(0, 0), drawn(next(-seed & 0xFFFFFFFFL), 36) / 9);
            }
        });
        test("STEPS -50 .. 50 of each WEATHER (at first 0).", () -> {
            for (int w = 0; w < 4; w++) {
                HallGlass x = new HallGlass();
                int weather = w;
                Due.is("at first", x.step(w, -50), 0);
                Due.is("-50", x.step(w, 50), -50);
                Due.none("51", () -> x.step(weather, 51));
                Due.none("-51", () -> x.step(weather, -51));
                Due.is("50", x.step(w, 0), 50);
            }
        });
        test("A DRAW of n: R = R times 1103515245 + 12345 (as ints; R at first 1), (R without sign, by 65536) % n.", () -> {
            HallGlass y = new HallGlass();
            Due.is("R at first", y.seed(0), 1);
            int below = 0;
            for (int seed : new int[] {1, 0, -1, 2, 77, -77, 65535, 65536, 1 << 30, Integer.MIN_VALUE, Integer.MAX_VALUE, -12345}) {
                HallGlass x = new HallGlass();
                x.seed(seed);
                x.run(1);
                long r = next(seed & 0xFFFFFFFFL);
                Due.is("WEATHER, R " + seed, x.of(0, 0), drawn(r, 4));
                r = next(r);
                Due.is("AIR, R " + seed, x.of(0, 1), 490 + drawn(r, 21));
                r = next(r);
                below += (int) r < 0 ? 1 : 0;
                Due.is("SKY, R " + seed, x.of(0, 2), drawn(r, 8));
                Due.is("R behind R " + seed, x.seed(0), (int) r);
            }
            Due.is("R is below 0 at times", below > 2, true);
        });
        test("A DAY more: its WEATHER by a DRAW of the sum of WEIGHTS behind the latest one"
                + " (0 ahead of DAY 0; if the sum is 0: it stays, no DRAW);", () -> {
            HallGlass x = new HallGlass();
            for (int to = 0; to < 4; to++) {
                x.weight(0, to, to == 2 ? 9 : 0);
                x.weight(2, to, to == 3 ? 1 : 0);
                x.weight(3, to, 0);
            }
            x.run(4);
            int[] due = {2, 3, 3, 3};
            for (int d = 0; d < 4; d++) {
                Due.is("of(" + d + ", 0)", x.of(d, 0), due[d]);
            }
            // two DAYS of three DRAWS, two of two
            long r = 1;
            for (int i = 0; i < 10; i++) {
                r = next(r);
            }
            Due.is("R behind ten DRAWS", x.seed(0), (int) r);
            HallGlass y = new HallGlass();
            for (int to = 0; to < 4; to++) {
                y.weight(0, to, 0);
            }
            y.run(1);
            Due.is("it stays ahead of DAY 0", y.of(0, 0), 0);
            Due.is("R behind two DRAWS", y.seed(0), (int) next(next(1)));
        });
    }

    private static void madeAir() {
        test("AIR: that of the latest (500 ahead of DAY 0) and the STEP of this WEATHER, and a DRAW of 21 less 10,"
                + " 0 at least, 999 at most; SKY: a DRAW of 8.", () -> {
            int[] latest = {0, 5, 45, 500, 960, 995, 999};
            for (int air : latest) {
                for (int seed = 0; seed < 60; seed++) {
                    HallGlass x = new HallGlass();
                    int[] steps = {50, -50, 0, 7};
                    for (int w = 0; w < 4; w++) {
                        x.step(w, steps[w]);
                    }
                    x.day(1, air, 0);
                    x.seed(seed * 1000);
                    x.run(1);
                    long r = next(seed * 1000);
                    long due = air + steps[(int) drawn(r, 4)];
                    r = next(r);
                    due += drawn(r, 21) - 10;
                    Due.is("AIR behind " + air + " by R " + seed * 1000, x.of(1, 1), due < 0 ? 0 : due > 999 ? 999 : due);
                    Due.is("SKY by R " + seed * 1000, x.of(1, 2), drawn(next(r), 8));
                }
            }
            HallGlass x = new HallGlass();
            x.run(1);
            Due.is("AIR of DAY 0", x.of(0, 1), 490 + drawn(next(next(1)), 21));
        });
    }

    // ---- GLASSES

    private static void glasses() {
        test("GLASSES 0 .. (at most 4):", () -> {
            HallGlass x = new HallGlass();
            for (int g = 0; g < 4; g++) {
                Due.is("glass " + g, x.glass(0, 0, 0), g);
            }
            Due.is("glass 4", x.glass(0, 0, 0), -1);
            Due.is("tap(3, true)", x.tap(3, true), true);
            Due.is("tap(4, true)", x.tap(4, true), false);
        });
        test("HEIGHT 0 .. 300, LEAN -50 .. 50, STICK 0 .. 40,", () -> {
            HallGlass x = new HallGlass();
            Due.is("the least", x.glass(0, -50, 0), 0);
            Due.is("the greatest", x.glass(300, 50, 40), 1);
            Due.is("HEIGHT -1", x.glass(-1, 0, 0), -1);
            Due.is("HEIGHT 301", x.glass(301, 0, 0), -1);
            Due.is("LEAN -51", x.glass(0, -51, 0), -1);
            Due.is("LEAN 51", x.glass(0, 51, 0), -1);
            Due.is("STICK -1", x.glass(0, 0, -1), -1);
            Due.is("STICK 41", x.glass(0, 0, 41), -1);
        });
        test("TAPPED or not.", () -> {
            HallGlass x = new HallGlass();
            x.glass(0, 0, 40);
            Due.airs(x, 500, 510);
            Due.is("TAPPED", x.shown(0, 1, 2), 510);
            x.tap(0, false);
            Due.is("not TAPPED", x.shown(0, 1, 2), 500);
        });
        test("TRUE on a DAY: AIR and LEAN, less HEIGHT.", () -> {
            HallGlass x = new HallGlass();
            x.glass(300, -50, 40);
            x.glass(0, 50, 40);
            Due.airs(x, 0, 999);
            Due.is("the least", x.shown(0, 0, 0), -350);
            Due.is("the greatest", x.shown(1, 1, 0), 1049);
            Due.is("high and lean, AIR 999", x.shown(0, 1, 0), 649);
            Due.is("AIR 0", x.shown(1, 0, 0), 50);
        });
    }

    private static void checkHands(String what, int stick, boolean tapped, int[] airs, int... due) {
        HallGlass x = new HallGlass();
        x.glass(0, 0, stick);
        x.tap(0, tapped);
        Due.airs(x, airs);
        for (int d = 0; d < due.length; d++) {
            Due.is(what + ": HAND on " + d, x.shown(0, d, 1), due[d]);
        }
    }

    private static void hands() {
        test("HAND: on DAY 0 TRUE; later, if TRUE is farther than STICK from where the hand stood", () -> {
            checkHands("one DAY", 40, false, new int[] {700}, 700);
            checkHands("one DAY of little AIR", 40, false, new int[] {7, 47}, 7, 7);
            checkHands("one DAY of little AIR, TAPPED", 40, true, new int[] {40, 0}, 40, 40);
            checkHands("just STICK above", 7, false, new int[] {500, 507}, 500, 500);
            checkHands("one more above", 7, false, new int[] {500, 508}, 500, 508);
            checkHands("just STICK below", 7, false, new int[] {500, 493}, 500, 500);
            checkHands("one more below", 7, false, new int[] {500, 492}, 500, 492);
            checkHands("STICK 0", 0, false, new int[] {500, 501, 500, 500}, 500, 501, 500, 500);
            checkHands("STICK 40", 40, false, new int[] {500, 540, 460, 541, 500}, 500, 500, 500, 541, 500);
        });
        test("(behind the tap of the DAY ahead, if it is TAPPED: TRUE then; else HAND then), it is TRUE, else it stays there.", () -> {
            int[] airs = {500, 503, 506, 509, 515};
            checkHands("TAPPED", 5, true, airs, 500, 500, 503, 506, 515);
            checkHands("not TAPPED", 5, false, airs, 500, 500, 506, 506, 515);
        });
        test("SHOWN: TRUE, if it is TAPPED, else HAND.", () -> {
            HallGlass x = new HallGlass();
            x.glass(0, 0, 5);
            Due.airs(x, 500, 505, 506);
            Due.is("TAPPED, on DAY 1", x.shown(0, 1, 2), 505);
            x.tap(0, false);
            Due.is("not TAPPED, on DAY 1", x.shown(0, 1, 2), 500);
            Due.is("not TAPPED, on DAY 2", x.shown(0, 2, 2), 506);
            Due.is("not TAPPED, on DAY 0", x.shown(0, 0, 2), 500);
        });
    }

    private static void marks() {
        test("MARKS: at most 8 numbers -999 .. 999; WORD: how many of them are not above SHOWN.", () -> {
            HallGlass x = new HallGlass();
            x.glass(0, 0, 0);
            Due.airs(x, 500, 501, 499, 0, 999);
            Due.is("without MARKS", x.shown(0, 4, 3), 0);
            Due.is("mark(0, 501)", x.mark(0, 501), 1);
            Due.is("one above", x.shown(0, 0, 3), 0);
            Due.is("just there", x.shown(0, 1, 3), 1);
            Due.is("mark(0, -999)", x.mark(0, -999), 2);
            Due.is("mark(0, 999)", x.mark(0, 999), 3);
            Due.is("mark(0, -1000)", x.mark(0, -1000), -1);
            Due.is("mark(0, 1000)", x.mark(0, 1000), -1);
            for (int i = 4; i <= 8; i++) {
                Due.is("mark " + i, x.mark(0, i), i);
            }
            Due.is("mark 9", x.mark(0, 9), -1);
            Due.is("all of them", x.shown(0, 4, 3), 8);
            Due.is("below most", x.shown(0, 3, 3), 1);
            Due.is("just below", x.shown(0, 0, 3), 6);
            HallGlass y = new HallGlass();
            y.glass(0, 0, 5);
            y.tap(0, false);
            y.mark(0, 503);
            Due.airs(y, 500, 503);
            Due.is("TRUE is there, but not SHOWN", y.shown(0, 1, 3), 0);
        });
    }

    // ---- 2: SIGNS

    private static void signs() {
        test("SIGNS 0 .. (at most 10)", () -> {
            HallGlass x = Due.week();
            for (int i = 0; i < 10; i++) {
                Due.is("omen " + i, Due.omen(x, 0, "" + i), i);
            }
            Due.is("omen 10", Due.omen(x, 0, "1"), -100);
            Due.is("value(9, 0)", x.value(9, 0), 9);
            Due.none("value(10, 0)", () -> x.value(10, 0));
        });
        test("are texts of at most 40 signs, of a GLASS.", () -> {
            checkRight("7");
            checkRight("!".repeat(38) + "7");
            checkRight("!".repeat(39) + "7");
            checkWrong("!".repeat(40) + "7", 40);
            checkWrong("", 0);
            HallGlass x = Due.week();
            x.glass(100, 0, 0);
            Due.omen(x, 0, "p");
            Due.omen(x, 1, "p");
            Due.is("of GLASS 0", x.value(0, 0), 500);
            Due.is("of GLASS 1", x.value(1, 0), 400);
        });
    }

    private static void checkRight(String text) {
        Due.is("omen of " + text, Due.omen(Due.week(), 0, text), 0);
    }

    private static void checkWrong(String text, int place) {
        Due.is("omen of " + text, Due.omen(Due.week(), 0, text), -1 - place);
    }

    /** The value on DAY 3, of WEATHER 1 behind one of 0. */
    private static void value(String text, int due) {
        HallGlass x = Due.week();
        int sign = Due.omen(x, 0, text);
        Due.is("omen of " + text, sign, 0);
        if (sign == 0) {
            Due.is("value of " + text, x.value(0, 3), due);
        }
    }

    private static void strengths() {
        test("EXPRESSION: | binds least,", () -> {
            value("1|0&0", 1);
            value("0&0|1", 1);
            value("1|2=5", 1);
            value("(1|0)&0", 0);
            value("0|0", 0);
            value("0|5", 1);
        });
        test("then &,", () -> {
            value("0&1|1", 1);
            value("0&(1|1)", 0);
            value("2&1=2", 0);
            value("(2&1)=1", 1);
            value("3&7", 1);
        });
        test("then < > = (two; 1 or 0; not one behind the other),", () -> {
            value("2<3", 1);
            value("3<3", 0);
            value("4<3", 0);
            value("4>3", 1);
            value("3>3", 0);
            value("2>3", 0);
            value("3=3", 1);
            value("3=2", 0);
            value("2<1+2", 1);
            value("(1<2)<3", 1);
            value("1<2&2<3", 1);
            value("1<2|2<3", 1);
            value("(1<2)=(2<3)", 1);
            checkWrong("1<2<3", 3);
            checkWrong("1=2=3", 3);
            checkWrong("3>2=1", 3);
            checkWrong("1<2+3>4", 5);
            checkWrong("1<(2)<3", 5);
            checkWrong("(1<2<3)", 4);
            checkWrong("0|1<2&3=4>5", 9);
            checkWrong("1<", 2);
            checkWrong("<1", 0);
            checkWrong("1<=2", 2);
        });
        test("then + - (from the left),", () -> {
            value("9-3-2", 4);
            value("9-(3-2)", 8);
            value("9-3+2", 8);
            value("1+2+3", 6);
            value("9+-3", 6);
        });
        test("then ! and - ahead of a thing (any many);", () -> {
            value("!0+1", 2);
            value("!(0+1)", 0);
            value("-3+5", 2);
            value("-(3+5)", -8);
            value("!1<1", 1);
            value("!".repeat(39) + "0", 1);
            value("!".repeat(38) + "5", 1);
            value("-".repeat(39) + "5", -5);
            value("-!-!-7", -1);
            value("-!!-7", -1);
            value("!-!-0", 0);
            value("5--7", 12);
            checkWrong("!", 1);
            checkWrong("-", 1);
            checkWrong("7!", 1);
            checkWrong("7!7", 1);
            checkWrong("7-", 2);
            checkWrong("-+7", 1);
        });
    }

    private static void things() {
        test("things: a NUMBER of 1 to 3 digits,", () -> {
            value("0", 0);
            value("9", 9);
            value("10", 10);
            value("999", 999);
            value("007", 7);
            value("000", 0);
            checkWrong("1000", 3);
            checkWrong("0000", 3);
            checkWrong("1+2345", 5);
            checkWrong("(123)4", 5);
            checkWrong("d1", 1);
            checkWrong("1+d1", 3);
            checkWrong("(1)1", 3);
        });
        test("an EXPRESSION in ( ) (at most 5 in one another),", () -> {
            value("(7)", 7);
            value("(((((7)))))", 7);
            value("(((((7)))))+(((((8)))))", 15);
            value("(1)+(1)+(1)+(1)+(1)+(1)+(1)", 7);
            checkWrong("((((((7))))))", 5);
            checkWrong("(((((7+(", 7);
            checkWrong("()", 1);
            checkWrong(")", 0);
            checkWrong("(7", 2);
            checkWrong("(7))", 3);
            checkWrong("(1)(2)", 3);
            checkWrong("7(", 1);
        });
        test("a LETTER: w WORD, p SHOWN,", () -> {
            HallGlass x = new HallGlass();
            x.glass(0, 0, 5);
            x.tap(0, false);
            x.mark(0, 503);
            Due.airs(x, 500, 503);
            Due.omen(x, 0, "w");
            Due.omen(x, 0, "p");
            Due.is("w goes by SHOWN", x.value(0, 1), 0);
            Due.is("p is not TRUE", x.value(1, 1), 500);
            x.mark(0, 501);
            Due.is("w with a MARK one above", x.value(0, 1), 0);
            x.mark(0, 500);
            Due.is("w with a MARK just there", x.value(0, 1), 1);
            checkWrong("W", 0);
            checkWrong("z", 0);
            checkWrong("ww", 1);
        });
    }

    private static void letters() {
        test("f SHOWN on the DAY ahead less SHOWN (0 on DAY 0),", () -> {
            HallGlass x = new HallGlass();
            x.glass(0, 0, 0);
            Due.airs(x, 999, 0, 999, 999);
            Due.omen(x, 0, "f");
            int[] due = {0, 999, -999, 0};
            for (int d = 0; d < 4; d++) {
                Due.is("f on " + d, x.value(0, d), due[d]);
            }
        });
        test("t WEATHER, y WEATHER on the DAY ahead (of DAY 0 its own), k SKY, d DAY.", () -> {
            HallGlass x = new HallGlass();
            x.glass(0, 0, 0);
            x.day(3, 500, 7);
            x.day(1, 500, 0);
            for (int i = 2; i < 240; i++) {
                x.day(2, 500, 5);
            }
            String letters = "tykd";
            for (int i = 0; i < 4; i++) {
                Due.omen(x, 0, letters.substring(i, i + 1));
            }
            int[][] due = {{0, 3, 3, 7, 0}, {1, 1, 3, 0, 1}, {2, 2, 1, 5, 2}, {239, 2, 2, 5, 239}};
            for (int[] a : due) {
                for (int i = 0; i < 4; i++) {
                    Due.is(letters.charAt(i) + " on " + a[0], x.value(i, a[0]), a[i + 1]);
                }
            }
        });
        test("As ints; | & ! give 1 or 0.", () -> {
            value("-999-999-999-999-999-999-999-999-999-999", -9990);
            value("999+999+999+999+999+999+999+999+999+999", 9990);
            value("7|9", 1);
            value("-7|0", 1);
            value("7&-9", 1);
            value("!7", 0);
            value("!-7", 0);
            value("!!7", 1);
        });
        test("No blanks.", () -> {
            checkWrong(" 7", 0);
            checkWrong("7 ", 1);
            checkWrong("7 +1", 1);
            checkWrong("7\u0000", 1);
            checkWrong("7\n", 1);
        });
        test("It STANDS on a DAY, if it is not 0.", () -> {
            HallGlass x = Due.week();
            String[] texts = {"0", "1", "-1", "d-1", "999", "1-1"};
            int[] due = {0, 8, 8, 7, 8, 0};
            for (int i = 0; i < 6; i++) {
                Due.omen(x, 0, texts[i]);
                x.table(i, 1, 1);
                Due.is("DAYS on which " + texts[i] + " STANDS", x.row(0) + x.row(1), due[i]);
            }
        });
    }

    // ---- EVENT, KNOWN DAYS

    /** Of one DAY whether the EVENT comes behind it: 1, 0; or -1, if it is not a KNOWN one. */
    private static int comes(HallGlass x, int day, int c, int k) {
        int sign = Due.omen(x, 0, "d=" + day);
        x.table(sign, c, k);
        return x.row(0) == 1 ? 1 : x.row(1) == 1 ? 0 : -1;
    }

    private static void events() {
        test("EVENT (c 1 .. 3, k 1 .. 9): behind a DAY, some of the k DAYS next has a WEATHER of c or more.", () -> {
            HallGlass x = new HallGlass();
            x.glass(0, 0, 0);
            Due.days(x, "3000000002000", "0000000000000");
            Due.is("the DAY itself does not count", comes(x, 0, 1, 3), 0);
            Due.is("the 9th DAY next", comes(x, 0, 2, 9), 1);
            Due.is("it is beyond the 8th", comes(x, 0, 2, 8), 0);
            Due.is("c 3 is more than 2", comes(x, 0, 3, 9), 0);
            Due.is("c 1 is less than 2", comes(x, 0, 1, 9), 1);
            Due.is("k 1, the DAY next", comes(x, 8, 2, 1), 1);
            Due.is("k 1, the DAY behind the next", comes(x, 7, 2, 1), 0);
            Due.is("k 1, of the DAY itself", comes(x, 9, 2, 1), 0);
            for (int[] wrong : new int[][] {{0, 1}, {4, 1}, {1, 0}, {1, 10}, {-1, 1}, {1, -1}}) {
                Due.is("table(0, " + wrong[0] + ", " + wrong[1] + ")", x.table(0, wrong[0], wrong[1]), -1);
            }
        });
        test("KNOWN DAYS: those behind which there are k DAYS.", () -> {
            HallGlass x = new HallGlass();
            x.glass(0, 0, 0);
            Due.omen(x, 0, "1");
            for (int days = 0; days <= 12; days++) {
                for (int k = 1; k <= 9; k++) {
                    x.table(0, 1, k);
                    Due.is(days + " DAYS, k " + k, x.row(0) + x.row(1) + x.row(2) + x.row(3), Math.max(0, days - k));
                }
                x.day(0, 500, 0);
            }
            Due.is("the last KNOWN DAY, k 4", comes(x, 8, 1, 4), 0);
            Due.is("the one behind it", comes(x, 9, 1, 4), -1);
        });
    }

    // ---- 3: PERSONS

    private static void persons() {
        test("PERSONS 0 .. (at most 6): to ACT costs COST 0 .. 99; if the EVENT comes and it has not ACTED, LOSS 0 .. 999;"
                + " if it comes and it has, STILL 0 .. 999.", () -> {
            HallGlass x = new HallGlass();
            Due.is("COST 100", x.person(100, 0, 0), -1);
            Due.is("COST -1", x.person(-1, 0, 0), -1);
            Due.is("LOSS 1000", x.person(0, 1000, 0), -1);
            Due.is("LOSS -1", x.person(0, -1, 0), -1);
            Due.is("STILL 1000", x.person(0, 0, 1000), -1);
            Due.is("STILL -1", x.person(0, 0, -1), -1);
            Due.is("the least", x.person(0, 0, 0), 0);
            Due.is("the greatest", x.person(99, 999, 999), 1);
            for (int i = 2; i < 6; i++) {
                Due.is("person " + i, x.person(1, 1, 1), i);
            }
            Due.is("person 6", x.person(1, 1, 1), -1);
        });
        test("COINS: what that comes to, over all KNOWN DAYS.", () -> {
            // the EVENT (2, 1) comes behind 3 of 8 KNOWN DAYS, (2, 2) behind 4 of 7
            HallGlass x = Due.week();
            x.person(1, 100, 7);
            x.person(99, 5, 0);
            Due.is("always ACTING", x, x.blind(0, 2, 1), 8 * 1 + 3 * 7, 1);
            Due.is("never", x, x.blind(1, 2, 1), 3 * 5, 0);
            Due.is("always ACTING, k 2", x, x.blind(0, 2, 2), 7 * 1 + 4 * 7, 1);
            Due.is("no KNOWN DAYS", x, x.blind(0, 2, 9), 0, 0);
        });
        test("BLIND: the least COINS of always ACTING and never (of equal ones never).", () -> {
            HallGlass x = Due.week();
            x.person(3, 8, 0);
            x.person(3, 9, 0);
            x.person(3, 7, 0);
            Due.is("equal ones", x, x.blind(0, 2, 1), 24, 0);
            Due.is("ACTING is less", x, x.blind(1, 2, 1), 24, 1);
            Due.is("never is less", x, x.blind(2, 2, 1), 21, 0);
        });
    }

    private static void bySigns() {
        test("BY SIGNS: on DAYS on which just the same ones of told SIGNS STAND it does alike:"
                + " whichever of both costs less over these DAYS (of equal ones not to ACT).", () -> {
            // behind DAYS 0, 3, 7 of 0 .. 7 the EVENT comes; the sky is 1 on 0, 1, 4, 6
            HallGlass x = Due.week();
            x.person(2, 8, 0);
            x.person(2, 9, 0);
            Due.omen(x, 0, "k=1");
            Due.omen(x, 0, "d<2");
            // STOOD: it comes on one of 4 DAYS: 8 or 8; without: on two of 4: 8 or 16
            Due.is("equal ones on the DAYS on which it STANDS", x, x.saved(0, 1, 2, 1), 0, 16, 2);
            Due.is("less on both", x, x.saved(1, 1, 2, 1), 0, 16, 2);
            // both STAND on 0, 1: 4 or 8; the first alone on 4, 6: 4 or 0; none on 2, 3, 5, 7: 8 or 16
            Due.is("by both", x, x.saved(0, 3, 2, 1), 4, 12, 3);
        });
        test("SAVED: BLIND's COINS less those.", () -> {
            HallGlass x = Due.week();
            x.person(2, 8, 0);
            Due.omen(x, 0, "d=0|d=3|d=7");
            long blind = x.blind(0, 2, 1);
            long saved = x.saved(0, 1, 2, 1);
            Due.is("SAVED", saved, 10);
            Due.is("BLIND less COINS", blind - x.row(0), 10);
            Due.omen(x, 0, "0");
            Due.is("nothing SAVED", x, x.saved(0, 2, 2, 1), 0, 16, 1);
        });
    }

    // ---- ROW, refused calls

    /** Behind each call that says nothing of the ROW. */
    private static void rows() {
        test("ROW: numbers told last by a call that says so.", () -> {
            HallGlass y = new HallGlass();
            Due.row("none told yet", y);
            HallGlass x = Twin.rich();
            Due.is("lot ahead", x.lot(0, 2, 1), 0);
            long upper = x.row(0);
            long lower = x.row(1);
            Object[][] calls = {{"day", 1, 1, 1}, {"sheet", 2, 2, 5, 5, 0}, {"run", 2}, {"weight", 0, 0, 2}, {"step", 0, 2},
                {"seed", 3}, {"of", 0, 0}, {"glass", 0, 0, 0}, {"tap", 0, true}, {"mark", 0, 77}, {"shown", 0, 0, 0},
                {"sign", 5}, {"end", 1}, {"omen", 0}, {"value", 0, 0}, {"beast", 0, 0, 1}, {"holds", 0, 1, 1},
                {"person", 1, 1, 1}, {"cry", 0, 1, 1}, {"start", 0, 1}, {"listen", 0, 2}, {"first", 0, 0, 1, 1},
                {"valley", 9, 1}, {"telling", 9, 1}, {"see", 1, 1}, {"keep", 2}, {"again", 2}, {"count", 6}};
            for (Object[] call : calls) {
                Object[] a = java.util.Arrays.copyOfRange(call, 1, call.length);
                Twin.answer(x, (String) call[0], a);
                Due.row("behind " + call[0], x, upper, lower);
            }
            Due.is("told anew", x.told(0, 1), 3);
            Due.is("one number now", x.count(6), 1);
        });
    }

    private static void rowsStay() {
        test("The ROW stays with NONE and with each number below 0 that tells why there is no answer (-2, -3 ..);", () -> {
            HallGlass x = Twin.full();
            x.person(9, 9, 9);
            x.hedge(70, 1);
            Object[][] calls = {
                {-1, "differ", 4, 0}, {-1, "right", 0, 4}, {-1, "whose", 0, 0, 1}, {-1, "table", 10, 1, 1},
                {-1, "says", 0, 4, 1}, {-1, "lot", 0, 1, 10}, {-1, "fails", 0, 0, 1}, {-1, "line", 6}, {-1, "blind", 0, 1, 0},
                {-1, "saved", 0, 0, 1, 1}, {-1, "few", 0, 4, 0, 1, 1}, {Twin.THROWS, "truly", 0, 0, 1, 1},
                {-1, "level", 0, 0, 2, 1, 1}, {-1, "remember", 0, 0, 0, 1}, {-1, "drum", 0, 1, 1, 2}, {-1, "mow", 0, 7},
                {-1, "fields", 0}, {-1, "village", 0, 0, 21, 1}, {-1, "elsewhere", 0, 1, 10}, {-1, "worlds", 0, 1, 61, 1, 1, 1},
                {-1, "judge", 1, 2}, {-1, "hedge", 101, 0}, {-1, "told", 11, 1},
                {-2, "sheet", 2, -1, 0, 0, 0}, {-3, "sheet", 3, 1, 0, 0, 0}, {-3, "lot", 0, 1, 1}, {-2, "judge", 1, 1}};
            for (Object[] call : calls) {
                Object[] a = java.util.Arrays.copyOfRange(call, 2, call.length);
                Due.same((String) call[1], Twin.answer(x, (String) call[1], a), call[0]);
                Due.row("behind " + call[1], x, 3000, 4200);
            }
            HallGlass y = Due.week();
            y.glass(0, 0, 0);
            y.glass(0, 0, 0);
            y.person(9, 9, 9);
            Due.omen(y, 0, "0");
            y.hedge(70, 1);
            Due.is("whose", y, y.whose(0, 1, 2), -2, 3000, 4200);
            Due.is("says", y, y.says(0, 1, 1), -2, 3000, 4200);
            Due.is("line", y, y.line(0), -2, 3000, 4200);
            Due.is("first", y, y.first(0, 0, 1, 1), -2, 3000, 4200);
            Due.is("omen", y, Due.omen(y, 0, "1+"), -3, 3000, 4200);
            Due.is("omen, no GLASS", y, Due.omen(y, 3, "1"), -100, 3000, 4200);
        });
        test("a number below 0 that is meant as such (below 0, too) comes with its ROW.", () -> {
            HallGlass x = Due.week();
            x.person(3, 10, 1);
            Due.omen(x, 0, "d=7|d=2|d=1");
            Due.is("few: 0 less 1, told as NONE is", x, x.few(0, 1, 1, 3, 1), -1, 1);
            Due.is("few: 0 less 2, told as -2 is", x, x.few(0, 1, 2, 3, 1), -2, 1);
            Due.is("truly", x, x.truly(0, 1, 2, 1), -6, 13, 19);
            Due.is("drum, always HEEDED", x, x.drum(0, 2, 20, 20), -2, 3, 2, 0);
            HallGlass y = new HallGlass();
            Due.days(y, "01000", "00000");
            y.glass(0, 0, 0);
            y.person(1, 3, 0);
            Due.omen(y, 0, "d=0|d=3");
            // BLIND: on DAYS 0, 1 it comes behind one of two: 2 to ACT, 3 not; by the sign: ACTING on 0, 3
            Due.is("truly above 0", y, y.truly(0, 1, 1, 1), 1, 2, 1);
            Due.omen(y, 0, "d>1");
            HallGlass z = new HallGlass();
            Due.days(z, "01000", "00000");
            z.glass(0, 0, 0);
            z.person(2, 3, 0);
            Due.omen(z, 0, "d=0|d=3");
            // BLIND: 4 to ACT, 3 not
            Due.is("truly: 0 less 2, told as -2 is", z, z.truly(0, 1, 1, 1), -2, 0, 2);
            z.person(1, 2, 0);
            // 2 or 2: BLIND does not; by the sign 1 is less than 2 on DAY 0, so it ACTS on 3
            Due.is("truly: 0 less 1, told as NONE is", z, z.truly(1, 1, 1, 1), -1, 0, 1);
        });
    }

    private static void refused() {
        test("Refused calls answer NONE, or false, and change nothing (but THE TEXT, which a call that reads it empties).", () -> {
            Twin.refuses(-1, "day", 4, 1, 1);
            Twin.refuses(false, "tap", 3, true);
            Twin.refuses(false, "end", 4);
            Twin.refuses(-1, "worlds", 0, 1, 10, 13, 1, 1);
            HallGlass x = Twin.rich();
            Due.is("THE TEXT ahead", x.count(7), 3);
            x.sign('(' << 24 | '(' << 16 | '(' << 8 | '(');
            Due.is("omen of a wrong text", x.omen(0), -4);
            Due.is("THE TEXT behind it", x.count(7), 0);
            Due.is("no SIGN more", x.count(2), 3);
            HallGlass z = Twin.rich();
            Due.is("omen of no such GLASS", z.omen(3), -100);
            Due.is("THE TEXT behind it, too", z.count(7), 0);
            HallGlass y = Twin.rich();
            y.end(0);
            x.end(0);
            Twin.alike("omen of a wrong text changes nothing else: ", x, y);
        });
        test("NONE is asked ahead of other answers below 0 (what a TEXT tells wrongly aside).", () -> {
            HallGlass x = Twin.full();
            x.glass(0, 0, 0);
            Due.is("sheet: n below 0 and a WEATHER", x.sheet(2, -1, 0, 0, 4), -1);
            Due.is("sheet: missing and a WEATHER", x.sheet(3, 1, 0, 0, -1), -1);
            Due.is("sheet: missing and n above 40", x.sheet(3, 41, 0, 0, 0), -1);
            Due.is("lot: 61 KNOWN DAYS and c", x.lot(0, 4, 1), -1);
            Due.is("lot: 61 KNOWN DAYS and k", x.lot(0, 1, 10), -1);
            Due.is("lot: 61 KNOWN DAYS and no such SIGN", x.lot(10, 1, 1), -1);
            Due.is("judge: no such DAY and c", x.judge(4, 0), -1);
            Due.is("judge: no such DAY and the measure", x.judge(1, 2), -1);
            HallGlass y = new HallGlass();
            y.glass(0, 0, 0);
            y.person(1, 1, 1);
            Due.omen(y, 0, "0");
            Due.is("says: it STANDS on none, and k", y.says(0, 1, 10), -1);
            Due.is("says: it STANDS on none, and c", y.says(0, 0, 1), -1);
            Due.is("whose: on none, and no three unlike ones", y.whose(0, 0, 0), -1);
            Due.is("first: never, and m", y.first(0, 0, 0, 1), -1);
            Due.is("drum: always HEEDED, and q", y.drum(0, 1, 1, 2), -1);
            Due.is("lot: no KNOWN DAYS", y.lot(0, 1, 1), -1);
            Due.is("a TEXT that is wrong at 0", Due.omen(y, 0, "+"), -1);
            Due.is("a TEXT that is wrong, and no such GLASS", Due.omen(y, 1, "+"), -100);
        });
    }

    private static void fractions() {
        test("Fractions are told in lowest terms, upper and lower number (0 by 1).", () -> {
            HallGlass x = Due.week();
            Due.omen(x, 0, "!k");
            Due.omen(x, 0, "k");
            Due.omen(x, 0, "1");
            Due.is("2 by 4 is 1 by 2, 3 by 8 stays", x, x.says(0, 2, 1), 1, 1, 2, 3, 8);
            Due.is("0 by 4 is 0 by 1", x, x.says(1, 3, 1), 2, 0, 1, 1, 8);
            Due.is("1 by 1", x, x.lot(2, 2, 1), 0, 1, 1);
            x.person(0, 7, 1);
            x.person(6, 9, 0);
            x.person(8, 9, 5);
            Due.is("0 by 6 is 0 by 1", x, x.line(0), 0, 0, 1);
            Due.is("6 by 9 is 2 by 3", x, x.line(1), 0, 2, 3);
            Due.is("8 by 4 is 2 by 1", x, x.line(2), 0, 2, 1);
        });
    }

    /** "An object is used for at most 512 calls": the last of them is answered as any other. */
    private static void lastCall() {
        HallGlass x = new HallGlass();
        for (int i = 0; i < 510; i++) {
            x.see(i % 3, i % 3);
        }
        Due.is("call 511", x.count(5), 20);
        Due.is("call 512", x.day(0, 0, 0), 0);
    }
}
