/** Promises 51 to 54. */
public final class KeptTest {
    public static void main(String[] args) {
        keep();
        again();
        againWithFewer();
        count();
        row();
        Due.end();
    }

    private static void keep() {
        HallGlass x = new HallGlass();
        Due.is("keep(-1)", x.keep(-1), false);
        Due.is("keep(3)", x.keep(3), false);
        Due.is("again(-1)", x.again(-1), false);
        Due.is("again(3)", x.again(3), false);
        for (int i = 0; i < 3; i++) {
            Due.is("again(" + i + ") of nothing", x.again(i), false);
            Due.is("keep(" + i + ")", x.keep(i), true);
            Due.is("again(" + i + ")", x.again(i), true);
        }
    }

    private static void again() {
        HallGlass x = new HallGlass();
        x.run(3);
        x.keep(1);
        x.run(5);
        int[] made = new int[15];
        for (int i = 0; i < 15; i++) {
            made[i] = x.of(3 + i / 3, i % 3);
        }
        x.keep(2);
        x.weight(0, 0, 5);
        x.weight(0, 0, 1);
        Due.is("again(1)", x.again(1), true);
        Due.is("count(0)", x.count(0), 3);
        Due.is("of(3, 0): gone", x.of(3, 0), -1);
        Due.is("again(2): there are fewer DAYS now", x.again(2), false);
        Due.is("run(5) with the same R", x.run(5), 8);
        for (int i = 0; i < 15; i++) {
            Due.is("of(" + (3 + i / 3) + ", " + i % 3 + ")", x.of(3 + i / 3, i % 3), made[i]);
        }
        int r = x.seed(77);
        Due.is("again(2) with as many DAYS", x.again(2), true);
        Due.is("R is as it was", x.seed(78), r);
        x.keep(1);
        x.seed(5);
        Due.is("again(1), kept anew", x.again(1), true);
        Due.is("count(0) then", x.count(0), 8);
        Due.is("R kept anew", x.seed(1), 78);
    }

    /** Only how many DAYS there are is kept, not what they were; GLASSES, WEIGHTS, tellings stay as they are. */
    private static void againWithFewer() {
        HallGlass x = new HallGlass();
        x.keep(0);
        x.day(1, 100, 1);
        x.day(2, 200, 2);
        x.keep(1);
        x.again(0);
        Due.is("count(0) of none", x.count(0), 0);
        x.day(3, 300, 3);
        x.seed(9);
        Due.is("again(1), one fewer", x.again(1), false);
        Due.is("R stays, as it is refused", x.seed(10), 9);
        x.day(3, 301, 3);
        x.day(3, 302, 3);
        x.glass(0, 0, 0);
        x.telling(2, 50);
        x.weight(0, 0, 7);
        Due.is("again(1), one more", x.again(1), true);
        Due.is("of(1, 1)", x.of(1, 1), 301);
        Due.is("of(2, 1)", x.of(2, 1), -1);
        Due.is("count(1)", x.count(1), 1);
        Due.is("count(4)", x.count(4), 1);
        Due.is("weight(0, 0, 1)", x.weight(0, 0, 1), 7);
    }

    private static void count() {
        HallGlass x = Due.week();
        x.glass(0, 0, 0);
        Due.omen(x, 0, "1");
        Due.omen(x, 0, "d");
        Due.omen(x, 0, "k");
        for (int i = 0; i < 4; i++) {
            x.person(1, 1, 1);
        }
        for (int i = 0; i < 5; i++) {
            x.telling(i * 40, 1);
        }
        for (int i = 0; i < 6; i++) {
            x.see(i, i);
        }
        x.sign(0);
        x.sign(0);
        x.end(7);
        for (int i = 0; i < 8; i++) {
            x.valley(i * 30, 1);
        }
        x.table(0, 1, 1);
        int[] due = {9, 2, 3, 4, 5, 6, 4, 7, 8};
        for (int what = 0; what <= 8; what++) {
            Due.is("count(" + what + ")", x.count(what), due[what]);
        }
        Due.is("count(-1)", x.count(-1), -1);
        Due.is("count(9)", x.count(9), -1);
    }

    private static void row() {
        HallGlass x = Due.week();
        Due.row("a ROW not told yet", x);
        Due.none("row(least)", () -> x.row(Integer.MIN_VALUE));
        Due.none("row(greatest)", () -> x.row(Integer.MAX_VALUE));
        Due.omen(x, 0, "k=1");
        x.table(0, 2, 1);
        Due.row("the ROW of table()", x, 1, 3, 2, 2);
        x.holds(0, 2, 1);
        x.cry(0, 2, 1);
        x.day(0, 500, 0);
        Due.row("the ROW stays", x, 1, 3, 2, 2);
        x.blind(0, 2, 1);
        Due.row("the ROW stays with NONE", x, 1, 3, 2, 2);
        x.fields(6);
        Due.row("the ROW of fields(), of no numbers", x);
    }
}
