/** Promises 26 to 32, mostly on the DAYS of Due.week() with the EVENT (2, 1): behind DAYS 0, 3, 7 of 0 .. 7. */
public final class CoinsTest {
    public static void main(String[] args) {
        person();
        line();
        blind();
        saved();
        savedOtherwise();
        few();
        fewOfNone();
        truly();
        trulyUnseen();
        level();
        levelOtherwise();
        Due.end();
    }

    private static void person() {
        HallGlass x = new HallGlass();
        Due.is("person(-1, 0, 0)", x.person(-1, 0, 0), -1);
        Due.is("person(100, 0, 0)", x.person(100, 0, 0), -1);
        Due.is("person(0, -1, 0)", x.person(0, -1, 0), -1);
        Due.is("person(0, 1000, 0)", x.person(0, 1000, 0), -1);
        Due.is("person(0, 0, -1)", x.person(0, 0, -1), -1);
        Due.is("person(0, 0, 1000)", x.person(0, 0, 1000), -1);
        Due.is("count(3)", x.count(3), 0);
        Due.is("person(99, 999, 999)", x.person(99, 999, 999), 0);
        for (int i = 1; i < 6; i++) {
            Due.is("person " + i, x.person(0, 0, 0), i);
        }
        Due.is("person 6", x.person(0, 0, 0), -1);
        Due.is("count(3) then", x.count(3), 6);
    }

    private static void line() {
        HallGlass x = new HallGlass();
        x.person(3, 10, 1);
        x.person(0, 10, 1);
        x.person(3, 10, 10);
        x.person(3, 9, 10);
        x.person(99, 1, 0);
        x.person(7, 10, 0);
        Due.is("line(0)", x, x.line(0), 0, 1, 3);
        Due.is("line(2): LOSS is STILL", x, x.line(2), -2, 1, 3);
        Due.is("line(3): LOSS below STILL", x, x.line(3), -2, 1, 3);
        Due.is("line(6)", x, x.line(6), -1, 1, 3);
        Due.is("line(-1)", x, x.line(-1), -1, 1, 3);
        Due.is("line(1)", x, x.line(1), 0, 0, 1);
        Due.is("line(4)", x, x.line(4), 0, 99, 1);
        Due.is("line(5)", x, x.line(5), 0, 7, 10);
    }

    private static void blind() {
        HallGlass x = Due.week();
        x.person(3, 10, 1);
        x.person(4, 10, 0);
        x.person(3, 8, 0);
        x.person(0, 5, 9);
        Due.is("blind(0, 2, 1)", x, x.blind(0, 2, 1), 27, 1);
        Due.is("blind(1, 2, 1)", x, x.blind(1, 2, 1), 30, 0);
        Due.is("blind(2, 2, 1): of equal ones never", x, x.blind(2, 2, 1), 24, 0);
        Due.is("blind(3, 2, 1)", x, x.blind(3, 2, 1), 15, 0);
        Due.is("blind(0, 1, 1)", x, x.blind(0, 1, 1), 29, 1);
        Due.is("blind(0, 2, 2)", x, x.blind(0, 2, 2), 25, 1);
        Due.is("blind(0, 1, 9)", x, x.blind(0, 1, 9), 0, 0);
        Due.is("blind(4, 2, 1)", x, x.blind(4, 2, 1), -1, 0);
        Due.is("blind(-1, 2, 1)", x, x.blind(-1, 2, 1), -1, 0);
        Due.is("blind(0, 0, 1)", x, x.blind(0, 0, 1), -1, 0);
        Due.is("blind(0, 4, 1)", x, x.blind(0, 4, 1), -1, 0);
        Due.is("blind(0, 2, 0)", x, x.blind(0, 2, 0), -1, 0);
        Due.is("blind(0, 2, 10)", x, x.blind(0, 2, 10), -1, 0);
    }

    private static HallGlass weekWithSigns() {
        HallGlass x = Due.week();
        x.person(3, 10, 1);
        Due.omen(x, 0, "k=1");
        Due.omen(x, 0, "d>2");
        return x;
    }

    private static void saved() {
        HallGlass x = weekWithSigns();
        Due.is("saved(0, 1, 2, 1)", x, x.saved(0, 1, 2, 1), 3, 24, 2);
        Due.is("saved(0, 2, 2, 1): equal ones", x, x.saved(0, 2, 2, 1), 0, 27, 2);
        Due.is("saved(0, 3, 2, 1)", x, x.saved(0, 3, 2, 1), 9, 18, 4);
        Due.is("saved(0, 0, 2, 1)", x, x.saved(0, 0, 2, 1), -1, 18, 4);
        Due.is("saved(0, 4, 2, 1)", x, x.saved(0, 4, 2, 1), -1, 18, 4);
        Due.is("saved(0, -1, 2, 1)", x, x.saved(0, -1, 2, 1), -1, 18, 4);
        Due.is("saved(1, 3, 2, 1)", x, x.saved(1, 3, 2, 1), -1, 18, 4);
        Due.is("saved(-1, 3, 2, 1)", x, x.saved(-1, 3, 2, 1), -1, 18, 4);
        Due.is("saved(0, 3, 0, 1)", x, x.saved(0, 3, 0, 1), -1, 18, 4);
        Due.is("saved(0, 3, 4, 1)", x, x.saved(0, 3, 4, 1), -1, 18, 4);
        Due.is("saved(0, 3, 2, 0)", x, x.saved(0, 3, 2, 0), -1, 18, 4);
        Due.is("saved(0, 3, 2, 10)", x, x.saved(0, 3, 2, 10), -1, 18, 4);
        Due.is("saved without KNOWN DAYS", x, x.saved(0, 3, 2, 9), 0, 0, 0);
    }

    private static void savedOtherwise() {
        HallGlass x = Due.week();
        x.person(3, 10, 1);
        Due.is("saved without SIGNS", x, x.saved(0, 1, 2, 1), -1);
        for (int i = 0; i < 10; i++) {
            Due.omen(x, 0, "d=" + i);
        }
        Due.is("saved by ten SIGNS", x, x.saved(0, 1023, 2, 1), 15, 12, 8);
        Due.is("saved by the last", x, x.saved(0, 512, 2, 1), 0, 27, 1);
        Due.is("saved by 1024", x, x.saved(0, 1024, 2, 1), -1, 27, 1);
        HallGlass y = Due.week();
        y.person(0, 5, 9);
        Due.omen(y, 0, "d=0");
        Due.is("to have ACTED costs more", y, y.saved(0, 1, 2, 1), 0, 15, 2);
    }

    private static void few() {
        HallGlass x = weekWithSigns();
        Due.omen(x, 0, "k=1");
        Due.is("few(0, 1, 2, 2, 1)", x, x.few(0, 1, 2, 2, 1), 1, 1);
        Due.is("few(0, 2, 2, 2, 1)", x, x.few(0, 2, 2, 2, 1), 5, 3);
        Due.is("few(0, 2, 6, 2, 1): the fewest", x, x.few(0, 2, 6, 2, 1), -3, 1);
        Due.is("few(0, 2, 5, 2, 1)", x, x.few(0, 2, 5, 2, 1), -1, 3);
        Due.is("few(0, 2, 7, 2, 1)", x, x.few(0, 2, 7, 2, 1), -4, 1);
        Due.is("few(0, 2, 999, 2, 1)", x, x.few(0, 2, 999, 2, 1), -996, 1);
        Due.is("few(0, 1, 0, 2, 1): the least bits", x, x.few(0, 1, 0, 2, 1), 3, 1);
        Due.is("few(0, 3, 0, 2, 1)", x, x.few(0, 3, 0, 2, 1), 9, 3);
        Due.is("few(0, 0, 0, 2, 1)", x, x.few(0, 0, 0, 2, 1), -1, 3);
        Due.is("few(0, 4, 0, 2, 1)", x, x.few(0, 4, 0, 2, 1), -1, 3);
        Due.is("few(0, 1, -1, 2, 1)", x, x.few(0, 1, -1, 2, 1), -1, 3);
        Due.is("few(0, 1, 1000, 2, 1)", x, x.few(0, 1, 1000, 2, 1), -1, 3);
        Due.is("few(1, 1, 0, 2, 1)", x, x.few(1, 1, 0, 2, 1), -1, 3);
        Due.is("few(-1, 1, 0, 2, 1)", x, x.few(-1, 1, 0, 2, 1), -1, 3);
        Due.is("few(0, 1, 0, 0, 1)", x, x.few(0, 1, 0, 0, 1), -1, 3);
        Due.is("few(0, 1, 0, 4, 1)", x, x.few(0, 1, 0, 4, 1), -1, 3);
        Due.is("few(0, 1, 0, 2, 0)", x, x.few(0, 1, 0, 2, 0), -1, 3);
        Due.is("few(0, 1, 0, 2, 10)", x, x.few(0, 1, 0, 2, 10), -1, 3);
    }

    /** Each of four SIGNS tells one DAY with the EVENT from others: a set of them beats its parts. */
    private static void fewOfNone() {
        HallGlass x = Due.week();
        x.person(4, 10, 0);
        Due.is("few without SIGNS", x, x.few(0, 1, 0, 2, 1), -1);
        Due.omen(x, 0, "0");
        Due.omen(x, 0, "d=0");
        Due.omen(x, 0, "d=7");
        Due.omen(x, 0, "d=3");
        Due.is("few of one", x, x.few(0, 1, 1, 2, 1), 5, 2);
        Due.is("few of two", x, x.few(0, 2, 1, 2, 1), 10, 6);
        Due.is("few of three", x, x.few(0, 3, 1, 2, 1), 15, 14);
        Due.is("few of three, dear", x, x.few(0, 3, 6, 2, 1), 0, 2);
        Due.is("few of three, dearer", x, x.few(0, 3, 7, 2, 1), -1, 2);
        Due.is("few without KNOWN DAYS", x, x.few(0, 3, 2, 2, 9), -2, 1);
    }

    private static void truly() {
        HallGlass x = weekWithSigns();
        Due.omen(x, 0, "d=7|d=2|d=1");
        Due.omen(x, 0, "d>3");
        Due.omen(x, 0, "d=1|d=5");
        Due.is("truly(0, 1, 2, 1)", x, x.truly(0, 1, 2, 1), 0, 13, 13);
        Due.is("truly(0, 4, 2, 1): below 0", x, x.truly(0, 4, 2, 1), -6, 13, 19);
        Due.is("truly(0, 8, 2, 1): unseen", x, x.truly(0, 8, 2, 1), 0, 13, 13);
        Due.is("truly(0, 16, 2, 2): an odd half", x, x.truly(0, 16, 2, 2), 3, 14, 11);
        Due.is("saved behind truly", x, x.saved(0, 3, 2, 1), 9, 18, 4);
        Due.omen(x, 0, "d=0");
        Due.is("truly(0, 32, 2, 1)", x, x.truly(0, 32, 2, 1), 3, 13, 10);
        Due.is("saved behind truly, by the same", x, x.saved(0, 32, 2, 1), 3, 24, 2);
        Due.is("truly(0, 32, 2, 1) again", x, x.truly(0, 32, 2, 1), 3, 13, 10);
        Due.is("truly without KNOWN DAYS", x, x.truly(0, 16, 2, 9), 0, 0, 0);
        Due.is("truly of one KNOWN DAY", x, x.truly(0, 16, 2, 8), 0, 10, 10);
        Due.none("truly(0, 0, 2, 1)", () -> x.truly(0, 0, 2, 1));
        Due.none("truly(0, 64, 2, 1)", () -> x.truly(0, 64, 2, 1));
        Due.none("truly(0, -1, 2, 1)", () -> x.truly(0, -1, 2, 1));
        Due.none("truly(1, 1, 2, 1)", () -> x.truly(1, 1, 2, 1));
        Due.none("truly(-1, 1, 2, 1)", () -> x.truly(-1, 1, 2, 1));
        Due.none("truly(0, 1, 0, 1)", () -> x.truly(0, 1, 0, 1));
        Due.none("truly(0, 1, 4, 1)", () -> x.truly(0, 1, 4, 1));
        Due.none("truly(0, 1, 2, 0)", () -> x.truly(0, 1, 2, 0));
        Due.none("truly(0, 1, 2, 10)", () -> x.truly(0, 1, 2, 10));
        Due.row("truly, refused", x, 10, 10);
    }

    /** BLIND does as the first half bids, though over all DAYS the other would be better. */
    private static void trulyUnseen() {
        HallGlass x = new HallGlass();
        Due.days(x, "011110000", "000000000");
        x.glass(0, 0, 0);
        x.person(3, 10, 1);
        Due.omen(x, 0, "d>3");
        Due.omen(x, 0, "d>5");
        Due.is("truly: BLIND of the first half", x, x.truly(0, 1, 1, 1), 0, 12, 12);
        Due.is("truly: BLIND of the first half again", x, x.truly(0, 2, 1, 1), 0, 12, 12);
        HallGlass y = new HallGlass();
        Due.days(y, "000001111", "000000000");
        y.glass(0, 0, 0);
        y.person(3, 10, 1);
        Due.omen(y, 0, "d>5");
        Due.is("truly: never, as the first half bids", y, y.truly(0, 1, 1, 1), 0, 40, 40);
    }

    private static HallGlass airs() {
        HallGlass x = new HallGlass();
        String weathers = "020130012";
        int[] airs = {500, 490, 505, 480, 495, 500, 490, 470, 100};
        for (int d = 0; d < 9; d++) {
            x.day(weathers.charAt(d) - '0', airs[d], 0);
        }
        x.glass(0, 0, 0);
        return x;
    }

    private static void level() {
        HallGlass x = airs();
        x.person(3, 10, 1);
        x.person(10, 10, 0);
        Due.is("level(0, 0, 0, 2, 1)", x, x.level(0, 0, 0, 2, 1), 9, 480, 18);
        Due.is("level(0, 0, 1, 2, 1): the least v", x, x.level(0, 0, 1, 2, 1), 9, 0, 18);
        Due.is("level(1, 0, 0, 2, 1): never", x, x.level(1, 0, 0, 2, 1), 0, 9999, 30);
        Due.is("level(1, 0, 1, 2, 1): never", x, x.level(1, 0, 1, 2, 1), 0, 9999, 30);
        Due.is("level without KNOWN DAYS", x, x.level(0, 0, 0, 2, 9), 0, 9999, 0);
        Due.is("level(2, 0, 0, 2, 1)", x, x.level(2, 0, 0, 2, 1), -1, 9999, 0);
        Due.is("level(-1, 0, 0, 2, 1)", x, x.level(-1, 0, 0, 2, 1), -1, 9999, 0);
        Due.is("level(0, 1, 0, 2, 1)", x, x.level(0, 1, 0, 2, 1), -1, 9999, 0);
        Due.is("level(0, -1, 0, 2, 1)", x, x.level(0, -1, 0, 2, 1), -1, 9999, 0);
        Due.is("level(0, 0, -1, 2, 1)", x, x.level(0, 0, -1, 2, 1), -1, 9999, 0);
        Due.is("level(0, 0, 2, 2, 1)", x, x.level(0, 0, 2, 2, 1), -1, 9999, 0);
        Due.is("level(0, 0, 0, 0, 1)", x, x.level(0, 0, 0, 0, 1), -1, 9999, 0);
        Due.is("level(0, 0, 0, 4, 1)", x, x.level(0, 0, 0, 4, 1), -1, 9999, 0);
        Due.is("level(0, 0, 0, 2, 0)", x, x.level(0, 0, 0, 2, 0), -1, 9999, 0);
        Due.is("level(0, 0, 0, 2, 10)", x, x.level(0, 0, 0, 2, 10), -1, 9999, 0);
    }

    /** It goes by SHOWN, so by LEAN, HEIGHT and a hand that sticks; always to ACT is the greatest v. */
    private static void levelOtherwise() {
        HallGlass x = airs();
        x.person(1, 50, 0);
        x.person(0, 10, 1);
        x.person(3, 10, 1);
        x.glass(300, -50, 0);
        Due.is("level of a GLASS that hangs high", x, x.level(0, 1, 0, 2, 1), 1, 150, 7);
        x.glass(0, 0, 12);
        x.tap(2, false);
        Due.is("level of a GLASS that sticks", x, x.level(0, 2, 0, 2, 1), 0, 500, 8);
        Due.is("level by falls of a GLASS that sticks", x, x.level(2, 2, 1, 2, 1), 9, 20, 18);
        Due.is("level of one to whom it costs nothing", x, x.level(1, 0, 0, 2, 1), 0, 500, 3);
        Due.is("level by falls, to whom it costs nothing", x, x.level(1, 0, 1, 2, 1), 0, -15, 3);
    }
}
