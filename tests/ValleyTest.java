/** Promises 42 to 44. */
public final class ValleyTest {
    public static void main(String[] args) {
        valley();
        elsewhere();
        elsewhereRefused();
        worlds();
        worldsWithoutChoice();
        worldsRefused();
        Due.end();
    }

    private static void valley() {
        HallGlass x = new HallGlass();
        Due.is("valley(-1, 0)", x.valley(-1, 0), -1);
        Due.is("valley(240, 0)", x.valley(240, 0), -1);
        Due.is("valley(0, -1)", x.valley(0, -1), -1);
        Due.is("valley(0, 4)", x.valley(0, 4), -1);
        Due.is("count(8)", x.count(8), 0);
        Due.is("valley(0, 0)", x.valley(0, 0), 1);
        Due.is("valley(239, 3)", x.valley(239, 3), 2);
        Due.is("valley(239, 1)", x.valley(239, 1), 2);
        Due.is("valley(7, 1)", x.valley(7, 1), 3);
        Due.is("count(8) then", x.count(8), 3);
    }

    private static HallGlass weekWithValley() {
        HallGlass x = Due.week();
        Due.omen(x, 0, "k=1");
        Due.omen(x, 0, "!k");
        Due.omen(x, 0, "d=0|d=3");
        Due.omen(x, 0, "d=1");
        int[][] told = {{1, 3}, {2, 0}, {5, 1}, {7, 0}, {7, 2}, {9, 3}, {10, 3}};
        for (int[] t : told) {
            x.valley(t[0], t[1]);
        }
        return x;
    }

    private static void elsewhere() {
        HallGlass x = weekWithValley();
        Due.is("elsewhere(0, 2, 1)", x, x.elsewhere(0, 2, 1), 2, 2, 2, 0, 0, 0, 4);
        Due.is("elsewhere(1, 2, 1)", x, x.elsewhere(1, 2, 1), 0, 0, 0, 2, 2, -2, 4);
        Due.is("elsewhere(2, 2, 1)", x, x.elsewhere(2, 2, 1), 1, 1, 0, 1, 2, 1, 4);
        Due.is("elsewhere(3, 2, 1)", x, x.elsewhere(3, 2, 1), 0, 0, 1, 2, 1, 2, 4);
        Due.is("elsewhere(0, 1, 1)", x, x.elsewhere(0, 1, 1), 3, 3, 1, 0, 0, 0, 4);
        Due.is("elsewhere(0, 3, 1)", x, x.elsewhere(0, 3, 1), 1, 1, 3, 0, 0, 0, 4);
        Due.is("elsewhere(0, 2, 2)", x, x.elsewhere(0, 2, 2), 1, 1, 0, 0, 0, 0, 1);
        Due.is("elsewhere(0, 2, 3)", x, x.elsewhere(0, 2, 3), 0, 0, 0, 0, 0, -2, 0);
        Due.omen(x, 0, "p=500&w=1");
        x.mark(0, 500);
        Due.is("elsewhere by a glass", x, x.elsewhere(4, 2, 1), 2, 2, 2, 0, 0, 0, 4);
        Due.is("elsewhere without KNOWN DAYS", x, x.elsewhere(0, 2, 9), 0, 0, 0, 0, 0, -2, 0);
        x.day(0, 500, 1);
        Due.is("elsewhere with a DAY more", x, x.elsewhere(0, 2, 1), 3, 3, 2, 0, 0, 0, 5);
        x.valley(1, 0);
        Due.is("elsewhere, told again", x, x.elsewhere(0, 2, 1), 2, 2, 3, 0, 0, 0, 5);
    }

    private static void elsewhereRefused() {
        HallGlass x = weekWithValley();
        x.table(0, 2, 1);
        Due.is("elsewhere(4, 2, 1)", x, x.elsewhere(4, 2, 1), -1, 1, 3, 2, 2);
        Due.is("elsewhere(-1, 2, 1)", x, x.elsewhere(-1, 2, 1), -1, 1, 3, 2, 2);
        Due.is("elsewhere(0, 0, 1)", x, x.elsewhere(0, 0, 1), -1, 1, 3, 2, 2);
        Due.is("elsewhere(0, 4, 1)", x, x.elsewhere(0, 4, 1), -1, 1, 3, 2, 2);
        Due.is("elsewhere(0, 2, 0)", x, x.elsewhere(0, 2, 0), -1, 1, 3, 2, 2);
        Due.is("elsewhere(0, 2, 10)", x, x.elsewhere(0, 2, 10), -1, 1, 3, 2, 2);
    }

    private static void prepare(HallGlass x) {
        x.glass(20, 5, 12);
        x.glass(0, 0, 0);
        x.tap(0, false);
        x.mark(0, 470);
        x.mark(0, 490);
        x.step(3, -20);
        x.step(0, 9);
        x.weight(0, 0, 4);
        x.weight(3, 3, 3);
        x.person(4, 9, 0);
        Due.omen(x, 0, "f>5&w<2");
        Due.omen(x, 1, "t>1|k=3");
        Due.omen(x, 1, "d<9");
    }

    /** What worlds() tells is what DAYS tell that are made by run() from none on. */
    private static void worlds() {
        int[][] runs = {{3, 40, 12, 2, 1}, {7, 60, 5, 1, 2}, {1, 17, 1, 3, 1}, {2, 60, 12, 2, 1}, {6, 50, 7, 2, 1},
            {5, 20, 12, 2, 2}, {4, 1, 3, 1, 1}};
        for (int[] a : runs) {
            int r = a[0] * 7919;
            long above = 0;
            long sum = 0;
            long most = Long.MIN_VALUE;
            for (int i = 0; i < a[2]; i++) {
                HallGlass z = new HallGlass();
                prepare(z);
                z.seed(r);
                z.run(a[1]);
                int saved = z.saved(0, a[0], a[3], a[4]);
                above += saved > 0 ? 1 : 0;
                sum += saved;
                most = Math.max(most, saved);
                r = z.seed(0);
            }
            HallGlass w = new HallGlass();
            prepare(w);
            w.seed(a[0] * 7919);
            Due.days(w, "020130012", "110010101");
            int before = w.value(1, 3);
            String what = "worlds(0, " + a[0] + ", " + a[1] + ", " + a[2] + ", " + a[3] + ", " + a[4] + ")";
            Due.is(what, w, w.worlds(0, a[0], a[1], a[2], a[3], a[4]), above, sum, most);
            Due.is(what + " changes no DAYS", w.count(0), 9);
            Due.is(what + " changes no WEATHER", w.of(4, 0), 3);
            Due.is(what + " changes no value", w.value(1, 3), before);
            Due.is(what + " changes no reading", w.shown(0, 8, 2), 485);
            Due.is(what + " changes no R", w.seed(5), a[0] * 7919);
        }
    }

    private static void worldsWithoutChoice() {
        HallGlass x = new HallGlass();
        prepare(x);
        x.person(0, 5, 9);
        Due.is("worlds in which to ACT is worse", x, x.worlds(1, 7, 60, 12, 1, 1), 0, 0, 0);
        Due.is("worlds without KNOWN DAYS", x, x.worlds(0, 7, 9, 12, 1, 9), 0, 0, 0);
    }

    private static void worldsRefused() {
        HallGlass x = Due.week();
        prepare(x);
        x.table(0, 2, 1);
        x.worlds(0, 1, 1, 1, 1, 1);
        int[][] wrong = {{1, 1, 1, 1, 1, 1}, {-1, 1, 1, 1, 1, 1}, {0, 0, 1, 1, 1, 1}, {0, 8, 1, 1, 1, 1},
            {0, -1, 1, 1, 1, 1}, {0, 1, 0, 1, 1, 1}, {0, 1, 61, 1, 1, 1}, {0, 1, 1, 0, 1, 1}, {0, 1, 1, 13, 1, 1},
            {0, 1, 1, 1, 0, 1}, {0, 1, 1, 1, 4, 1}, {0, 1, 1, 1, 1, 0}, {0, 1, 1, 1, 1, 10}};
        for (int[] a : wrong) {
            Due.is("worlds refused", x, x.worlds(a[0], a[1], a[2], a[3], a[4], a[5]), -1, 0, 0);
        }
    }
}
