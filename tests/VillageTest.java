/** Promises 38 to 41, on Due.week() with the EVENT (1, 1); the sign stands on 0 (it comes), 1, 4 (not), 6 (it comes). */
public final class VillageTest {
    public static void main(String[] args) {
        start();
        listen();
        alone();
        talking();
        refused();
        Due.end();
    }

    private static HallGlass weekWithPersons() {
        HallGlass x = Due.week();
        x.person(3, 10, 1);
        x.person(99, 0, 999);
        x.person(0, 0, 0);
        Due.omen(x, 0, "k=1");
        return x;
    }

    private static void start() {
        HallGlass x = weekWithPersons();
        Due.is("start(0, 239)", x.start(0, 239), 0);
        Due.is("start(0, 240)", x.start(0, 240), -1);
        Due.is("start(0, -1)", x.start(0, -1), -1);
        Due.is("start(3, 0)", x.start(3, 0), -1);
        Due.is("start(-1, 0)", x.start(-1, 0), -1);
        Due.is("start(0, 5)", x.start(0, 5), 239);
        Due.is("start(1, 5)", x.start(1, 5), 0);
        Due.is("start(0, 0)", x.start(0, 0), 5);
    }

    private static void listen() {
        HallGlass x = weekWithPersons();
        Due.is("listen(0, 6)", x.listen(0, 6), 0);
        Due.is("listen(0, 1)", x.listen(0, 1), -1);
        Due.is("listen(0, 7)", x.listen(0, 7), -1);
        Due.is("listen(0, 8)", x.listen(0, 8), -1);
        Due.is("listen(0, -2)", x.listen(0, -2), -1);
        Due.is("listen(3, 0)", x.listen(3, 0), -1);
        Due.is("listen(-1, 0)", x.listen(-1, 0), -1);
        Due.is("listen(0, 4)", x.listen(0, 4), 6);
        Due.is("listen(2, 3)", x.listen(2, 3), 0);
        Due.is("listen(2, 4)", x.listen(2, 4), -1);
        Due.is("listen(0, 0)", x.listen(0, 0), 4);
        Due.is("listen(2, 0)", x.listen(2, 0), 3);
        HallGlass y = new HallGlass();
        Due.is("listen(0, 0) of none", y.listen(0, 0), -1);
        for (int i = 0; i < 6; i++) {
            y.person(0, 0, 0);
        }
        Due.is("listen(5, 31)", y.listen(5, 31), 0);
        Due.is("listen(5, 63)", y.listen(5, 63), -1);
        Due.is("listen(0, 64)", y.listen(0, 64), -1);
        Due.is("listen(5, 0)", y.listen(5, 0), 31);
    }

    private static void check(String what, HallGlass x, int m, int coins, int first, long... row) {
        x.end(0);
        Due.is(what + ": village(0, 0, " + m + ", 1)", x, x.village(0, 0, m, 1), coins, row);
        Due.is(what + ": first(0, 0, " + m + ", 1)", x, x.first(0, 0, m, 1), first, row);
    }

    private static void alone() {
        HallGlass x = weekWithPersons();
        check("alone", x, 20, 56, 1, 2, 2, 5);
        check("alone, of the latest", x, 1, 53, 1, 1, 1, 5);
        x.start(0, 1);
        check("alone, from DAY 1 on", x, 20, 50, -2, 0, 0, 5);
        Due.is("remember() from DAY 0 on", x, x.remember(0, 0, 20, 1), 56, 2, 2, 5);
        x.start(0, 6);
        check("alone, from DAY 6 on", x, 20, 50, -2, 0, 0, 5);
        x.start(0, 0);
        x.day(0, 500, 1);
        x.day(1, 500, 1);
        x.day(1, 500, 1);
        check("alone, of the latest one, some DAYS later", x, 1, 70, 1, 3, 2, 6);
        x.start(0, 5);
        check("alone, from DAY 5 on, of the latest one", x, 1, 67, 8, 2, 1, 6);
    }

    private static void talking() {
        HallGlass x = weekWithPersons();
        x.start(0, 1);
        x.listen(0, 2);
        check("with one who knows", x, 20, 53, 1, 1, 1, 5);
        x.start(0, 0);
        check("with one who knows alike", x, 20, 56, 1, 2, 2, 5);
        x.listen(0, 4);
        x.start(2, 1);
        check("with one who began later", x, 20, 53, 1, 1, 1, 5);
        x.listen(0, 6);
        check("with both", x, 20, 56, 1, 2, 2, 5);
        x.start(0, 100);
        check("ahead of its own start", x, 20, 53, 1, 1, 1, 5);
        x.listen(0, 4);
        x.listen(2, 2);
        check("what others hear does not count", x, 20, 50, -2, 0, 0, 5);
        x.listen(0, 2);
        check("of each the latest one", x, 1, 53, 1, 1, 1, 5);
    }

    private static void refused() {
        HallGlass x = weekWithPersons();
        x.table(0, 2, 1);
        int[][] wrong = {{3, 0, 1, 1}, {-1, 0, 1, 1}, {0, 1, 1, 1}, {0, -1, 1, 1}, {0, 0, 0, 1}, {0, 0, 21, 1},
            {0, 0, 1, 0}, {0, 0, 1, 4}};
        for (int[] a : wrong) {
            String told = "(" + a[0] + ", " + a[1] + ", " + a[2] + ", " + a[3] + ")";
            Due.is("village" + told, x, x.village(a[0], a[1], a[2], a[3]), -1, 1, 3, 2, 2);
            Due.is("first" + told, x, x.first(a[0], a[1], a[2], a[3]), -1, 1, 3, 2, 2);
        }
        Due.is("first(1, 0, 1, 1): never", x, x.first(1, 0, 1, 1), -2, 1, 3, 2, 2);
        Due.is("first(0, 0, 1, 1)", x, x.first(0, 0, 1, 1), 1, 1, 3, 2, 2);
    }
}
