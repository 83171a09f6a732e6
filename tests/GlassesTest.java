/** Promises 9 to 15. */
public final class GlassesTest {
    public static void main(String[] args) {
        glass();
        tap();
        mark();
        shown();
        differ();
        right();
        rightAtTheEdges();
        justAtTheMark();
        whose();
        Due.end();
    }

    private static void glass() {
        HallGlass x = new HallGlass();
        Due.is("glass(-1, 0, 0)", x.glass(-1, 0, 0), -1);
        Due.is("glass(301, 0, 0)", x.glass(301, 0, 0), -1);
        Due.is("glass(0, -51, 0)", x.glass(0, -51, 0), -1);
        Due.is("glass(0, 51, 0)", x.glass(0, 51, 0), -1);
        Due.is("glass(0, 0, -1)", x.glass(0, 0, -1), -1);
        Due.is("glass(0, 0, 41)", x.glass(0, 0, 41), -1);
        Due.is("count(1)", x.count(1), 0);
        Due.is("glass(0, -50, 0)", x.glass(0, -50, 0), 0);
        Due.is("glass(300, 50, 40)", x.glass(300, 50, 40), 1);
        Due.is("glass 2", x.glass(1, 1, 1), 2);
        Due.is("glass 3", x.glass(1, 1, 1), 3);
        Due.is("glass 4", x.glass(1, 1, 1), -1);
        Due.is("count(1)", x.count(1), 4);
        Due.airs(x, 500, 540, 500);
        Due.is("a new one is TAPPED", x.shown(1, 1, 2), 290);
        Due.is("a new one is without MARKS", x.shown(1, 1, 3), 0);
        Due.is("of the least LEAN", x.shown(0, 0, 0), 450);
    }

    private static void tap() {
        HallGlass x = new HallGlass();
        Due.is("tap(0, true) of none", x.tap(0, true), false);
        x.glass(0, 0, 10);
        Due.airs(x, 500, 505, 511, 512, 500, 510);
        int[] hands = {500, 500, 505, 511, 500, 500};
        int[] trues = {500, 505, 511, 512, 500, 510};
        int[] slow = {500, 500, 511, 511, 500, 500};
        for (int d = 0; d < 6; d++) {
            Due.is("TAPPED: HAND on " + d, x.shown(0, d, 1), hands[d]);
            Due.is("TAPPED: SHOWN on " + d, x.shown(0, d, 2), trues[d]);
        }
        Due.is("tap(0, false)", x.tap(0, false), true);
        for (int d = 0; d < 6; d++) {
            Due.is("not TAPPED: TRUE on " + d, x.shown(0, d, 0), trues[d]);
            Due.is("not TAPPED: HAND on " + d, x.shown(0, d, 1), slow[d]);
            Due.is("not TAPPED: SHOWN on " + d, x.shown(0, d, 2), slow[d]);
        }
        Due.is("tap(0, true)", x.tap(0, true), true);
        Due.is("TAPPED again", x.shown(0, 1, 2), 505);
        Due.is("tap(-1, false)", x.tap(-1, false), false);
        Due.is("tap(1, false)", x.tap(1, false), false);
    }

    private static void mark() {
        HallGlass x = new HallGlass();
        Due.is("mark(0, 1) of none", x.mark(0, 1), -1);
        x.glass(0, 0, 0);
        Due.is("mark(0, -1000)", x.mark(0, -1000), -1);
        Due.is("mark(0, 1000)", x.mark(0, 1000), -1);
        Due.is("mark(0, -999)", x.mark(0, -999), 1);
        Due.is("mark(0, 999)", x.mark(0, 999), 2);
        Due.is("mark(0, 999) again", x.mark(0, 999), -1);
        Due.is("mark(0, -999) again", x.mark(0, -999), -1);
        Due.is("mark(0, 0)", x.mark(0, 0), 3);
        Due.is("mark(0, 0) again", x.mark(0, 0), -1);
        for (int i = 4; i <= 8; i++) {
            Due.is("mark " + i, x.mark(0, i), i);
        }
        Due.is("mark 9", x.mark(0, 9), -1);
        Due.is("mark(1, 9)", x.mark(1, 9), -1);
        Due.is("mark(-1, 9)", x.mark(-1, 9), -1);
        x.glass(0, 0, 0);
        Due.is("mark(1, 4), though the other has it", x.mark(1, 4), 1);
    }

    private static void shown() {
        HallGlass x = new HallGlass();
        x.glass(300, -50, 40);
        Due.airs(x, 500, 541, 0);
        Due.is("TRUE", x.shown(0, 0, 0), 150);
        Due.is("farther than STICK", x.shown(0, 1, 1), 191);
        Due.is("below 0", x.shown(0, 2, 0), -350);
        Due.is("HAND", x.shown(0, 2, 1), -350);
        x.mark(0, 151);
        Due.is("a MARK above SHOWN", x.shown(0, 0, 3), 0);
        x.mark(0, 150);
        Due.is("a MARK just at SHOWN", x.shown(0, 0, 3), 1);
        x.mark(0, 149);
        x.mark(0, -350);
        Due.is("WORD", x.shown(0, 0, 3), 3);
        Due.is("WORD below", x.shown(0, 2, 3), 1);
        x.tap(0, false);
        x.day(0, 40, 0);
        Due.is("just STICK is not farther", x.shown(0, 3, 2), -350);
        Due.is("WORD goes by SHOWN", x.shown(0, 3, 3), 1);
        Due.none("shown(-1, 0, 0)", () -> x.shown(-1, 0, 0));
        Due.none("shown(1, 0, 0)", () -> x.shown(1, 0, 0));
        Due.none("shown(0, -1, 0)", () -> x.shown(0, -1, 0));
        Due.none("shown(0, 4, 0)", () -> x.shown(0, 4, 0));
        Due.none("shown(0, 0, -1)", () -> x.shown(0, 0, -1));
        Due.none("shown(0, 0, 4)", () -> x.shown(0, 0, 4));
    }

    private static void differ() {
        HallGlass x = new HallGlass();
        x.glass(0, 0, 0);
        x.glass(0, 0, 0);
        Due.is("differ without DAYS", x, x.differ(0, 1), 0);
        x.mark(0, 500);
        Due.airs(x, 500, 499, 501, 100);
        Due.is("differ(0, 1)", x, x.differ(0, 1), 2, 0, 2);
        Due.is("differ(1, 0)", x, x.differ(1, 0), 2, 0, 2);
        Due.is("differ(0, 0)", x, x.differ(0, 0), 0);
        for (int i = 4; i < 30; i++) {
            Due.airs(x, 600);
        }
        long[] first = {0, 2, 4, 5, 6, 7, 8, 9, 10, 11, 12, 13, 14, 15, 16, 17, 18, 19, 20, 21};
        Due.is("differ(0, 1) on many", x, x.differ(0, 1), 28, first);
        Due.is("differ(-1, 0)", x, x.differ(-1, 0), -1, first);
        Due.is("differ(0, 2)", x, x.differ(0, 2), -1, first);
        Due.is("differ(2, 0)", x, x.differ(2, 0), -1, first);
        x.keep(0);
        x.day(0, 700, 0);
        Due.is("differ(0, 1) with a DAY more", x, x.differ(0, 1), 29, first);
        x.again(0);
        Due.is("differ(0, 1) without it again", x, x.differ(0, 1), 28, first);
        x.mark(1, 500);
        Due.is("differ of the same MARKS", x, x.differ(0, 1), 0);
    }

    /** The hand of glass 1 sticks: it shows 540, 540, 460, 460, where glass 0 shows 540, 500, 460, 500. */
    private static void right() {
        HallGlass x = new HallGlass();
        Due.airs(x, 540, 500, 460, 500);
        x.glass(0, 0, 0);
        x.glass(0, 0, 40);
        x.tap(1, false);
        x.mark(0, 491);
        x.mark(0, 510);
        x.mark(1, 480);
        x.mark(1, 520);
        Due.is("right(0, 1): -10 and 10 alike", x, x.right(0, 1), 3, -10);
        Due.is("right(0, 0)", x, x.right(0, 0), 4, 0);
        Due.is("right(-1, 0)", x, x.right(-1, 0), -1, 0);
        Due.is("right(0, 2)", x, x.right(0, 2), -1, 0);
        Due.is("right(2, 0)", x, x.right(2, 0), -1, 0);
        x.mark(0, 509);
        x.mark(1, 519);
        Due.is("right(0, 1): one way", x, x.right(0, 1), 3, -10);
        Due.is("right(0, 1) changes no MARKS", x.shown(0, 1, 3), 1);
    }

    private static void rightAtTheEdges() {
        int[] marks = {440, 441, 499, 500, 501, 560, 561};
        int[] otherMarks = {999, 999, 999, 999, 0, 0, 0};
        int[] alike = {0, 1, 1, 1, 1, 1, 0};
        int[] shift = {0, 60, 2, 1, -1, -60, 0};
        for (int i = 0; i < marks.length; i++) {
            HallGlass x = new HallGlass();
            x.glass(0, 0, 0);
            x.glass(0, 0, 0);
            x.mark(0, marks[i]);
            x.mark(1, otherMarks[i]);
            Due.is("right(0, 1) without DAYS", x, x.right(0, 1), 0, 0);
            Due.airs(x, 500);
            Due.is("right(0, 1) of a MARK at " + marks[i], x, x.right(0, 1), alike[i], shift[i]);
        }
    }

    /** A MARK just at what is SHOWN is not above it, in the WORD of each glass alike. */
    private static void justAtTheMark() {
        HallGlass x = new HallGlass();
        Due.airs(x, 500);
        x.glass(0, 0, 0);
        x.glass(0, 0, 0);
        x.glass(0, 0, 0);
        x.mark(0, 500);
        x.mark(1, 500);
        x.mark(2, 501);
        Due.is("right(0, 1)", x, x.right(0, 1), 1, 0);
        Due.is("right(1, 2)", x, x.right(1, 2), 1, 1);
        Due.is("right(2, 1)", x, x.right(2, 1), 1, -1);
        Due.is("whose(0, 1, 2)", x, x.whose(0, 1, 2), 2, 1);
        Due.is("whose(2, 0, 1)", x, x.whose(2, 0, 1), 2, 1);
        x.glass(1, 0, 0);
        x.mark(3, 499);
        Due.is("whose(2, 0, 3)", x, x.whose(2, 0, 3), 2, 1);
        Due.is("whose(3, 2, 0)", x, x.whose(3, 2, 0), 2, 1);
    }

    /** The WORDS turn to 1 at AIR 450, 510, 550, 450: on a DAY of 520 they are 1, 1, 0, 1, on one of 505 1, 0, 0, 1. */
    private static void whose() {
        HallGlass x = new HallGlass();
        for (int height : new int[] {50, 110, 150, 50}) {
            x.glass(height, 0, 0);
            x.mark(x.count(1) - 1, 400);
        }
        Due.is("whose(0, 1, 2) without DAYS", x, x.whose(0, 1, 2), -2);
        Due.airs(x, 520, 100, 530, 505, 600);
        Due.is("whose(0, 1, 2)", x, x.whose(0, 1, 2), 2, 2);
        Due.is("whose(2, 1, 0)", x, x.whose(2, 1, 0), 2, 2);
        Due.is("whose(1, 3, 0)", x, x.whose(1, 3, 0), 1, 1);
        Due.airs(x, 509);
        Due.is("whose(0, 1, 2) of equal ones", x, x.whose(0, 1, 2), 0, 2);
        Due.is("whose(1, 2, 0) of equal ones", x, x.whose(1, 2, 0), 2, 2);
        Due.is("whose(0, 1, 1)", x, x.whose(0, 1, 1), -1, 2);
        Due.is("whose(0, 0, 1)", x, x.whose(0, 0, 1), -1, 2);
        Due.is("whose(1, 0, 1)", x, x.whose(1, 0, 1), -1, 2);
        Due.is("whose(-1, 0, 1)", x, x.whose(-1, 0, 1), -1, 2);
        Due.is("whose(0, 4, 1)", x, x.whose(0, 4, 1), -1, 2);
        Due.is("whose(0, 1, 4)", x, x.whose(0, 1, 4), -1, 2);
        HallGlass y = new HallGlass();
        Due.airs(y, 500, 600);
        y.glass(0, 0, 0);
        y.glass(0, 0, 0);
        y.glass(0, 0, 0);
        y.mark(0, 500);
        y.mark(1, 400);
        y.mark(1, 450);
        Due.is("differ ahead", y, y.differ(0, 1), 2, 0, 1);
        Due.is("whose: all three unlike", y, y.whose(0, 1, 2), -2, 0, 1);
    }
}
