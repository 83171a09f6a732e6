/** Promises 1 to 8. */
public final class DaysTest {
    public static void main(String[] args) {
        aNewObject();
        day();
        sheetKinds();
        sheetRefusals();
        sheetLimit();
        run();
        runOtherwise();
        runAtTheEdges();
        runLimit();
        weightStepSeed();
        of();
        Due.end();
    }

    private static void aNewObject() {
        HallGlass x = new HallGlass();
        for (int what = 0; what <= 8; what++) {
            Due.is("new: count(" + what + ")", x.count(what), 0);
        }
        Due.is("new: of(0, 0)", x.of(0, 0), -1);
        Due.is("new: seed(1)", x.seed(1), 1);
        for (int from = 0; from < 4; from++) {
            for (int to = 0; to < 4; to++) {
                Due.is("new: weight(" + from + ", " + to + ", 1)", x.weight(from, to, 1), 1);
            }
            Due.is("new: step(" + from + ", 0)", x.step(from, 0), 0);
        }
        Due.row("new", x);
    }

    private static void checkDay(HallGlass x, int day, int weather, int air, int sky) {
        Due.is("of(" + day + ", 0)", x.of(day, 0), weather);
        Due.is("of(" + day + ", 1)", x.of(day, 1), air);
        Due.is("of(" + day + ", 2)", x.of(day, 2), sky);
    }

    private static void day() {
        HallGlass x = new HallGlass();
        Due.is("day(3, 999, 7)", x.day(3, 999, 7), 0);
        Due.is("day(0, 0, 0)", x.day(0, 0, 0), 1);
        Due.is("day(-1, 5, 5)", x.day(-1, 5, 5), -1);
        Due.is("day(4, 5, 5)", x.day(4, 5, 5), -1);
        Due.is("day(1, -1, 5)", x.day(1, -1, 5), -1);
        Due.is("day(1, 1000, 5)", x.day(1, 1000, 5), -1);
        Due.is("day(1, 5, -1)", x.day(1, 5, -1), -1);
        Due.is("day(1, 5, 8)", x.day(1, 5, 8), -1);
        Due.is("day(1, 2, 3)", x.day(1, 2, 3), 2);
        checkDay(x, 0, 3, 999, 7);
        checkDay(x, 1, 0, 0, 0);
        checkDay(x, 2, 1, 2, 3);
        for (int i = 3; i < 240; i++) {
            Due.is("day " + i, x.day(1, i, 1), i);
        }
        Due.is("day 240", x.day(1, 1, 1), -1);
        Due.is("count(0)", x.count(0), 240);
        checkDay(x, 239, 1, 239, 1);
    }

    private static void sheetKinds() {
        HallGlass x = new HallGlass();
        Due.is("sheet of bytes", x.sheet(0, 3, 100, 20, 2), 3);
        checkDay(x, 0, 2, 100, 0);
        checkDay(x, 1, 2, 120, 0);
        checkDay(x, 2, 2, 0, 0);
        Due.is("sheet of bytes above 255", x.sheet(0, 2, 261, -10, 1), 5);
        checkDay(x, 3, 1, 5, 0);
        checkDay(x, 4, 1, 0, 0);
        Due.is("sheet of shorts", x.sheet(1, 3, 32000, 500, 0), 8);
        checkDay(x, 5, 0, 999, 0);
        checkDay(x, 6, 0, 999, 0);
        checkDay(x, 7, 0, 0, 0);
        Due.is("sheet of shorts above 65535", x.sheet(1, 1, 65543, 0, 0), 9);
        checkDay(x, 8, 0, 7, 0);
        Due.is("sheet of ints", x.sheet(2, 2, 65543, -65535, 3), 11);
        checkDay(x, 9, 3, 999, 0);
        checkDay(x, 10, 3, 8, 0);
        Due.is("sheet of ints that turn round", x.sheet(2, 2, Integer.MAX_VALUE, 1, 0), 13);
        checkDay(x, 11, 0, 999, 0);
        checkDay(x, 12, 0, 0, 0);
        Due.is("sheet of none", x.sheet(2, 0, 5, 5, 1), 13);
        Due.is("sheet of 40", x.sheet(2, 40, 998, 1, 1), 53);
        checkDay(x, 13, 1, 998, 0);
        checkDay(x, 14, 1, 999, 0);
        checkDay(x, 52, 1, 999, 0);
        Due.is("sheet at 0 and below", x.sheet(2, 3, 1, -1, 1), 56);
        checkDay(x, 53, 1, 1, 0);
        checkDay(x, 54, 1, 0, 0);
        checkDay(x, 55, 1, 0, 0);
    }

    private static void sheetRefusals() {
        HallGlass x = new HallGlass();
        for (int kind = 0; kind <= 2; kind++) {
            Due.is("sheet n -1", x.sheet(kind, -1, 1, 1, 0), -2);
            Due.is("sheet n least", x.sheet(kind, Integer.MIN_VALUE, 1, 1, 3), -2);
            Due.is("sheet n 41", x.sheet(kind, 41, 1, 1, 0), -1);
            Due.is("sheet n -1, WEATHER 4", x.sheet(kind, -1, 1, 1, 4), -1);
            Due.is("sheet WEATHER -1", x.sheet(kind, 1, 1, 1, -1), -1);
        }
        Due.is("sheet missing", x.sheet(3, 1, 1, 1, 0), -3);
        Due.is("sheet missing, n 0", x.sheet(3, 0, 1, 1, 0), -3);
        Due.is("sheet missing, n -1", x.sheet(3, -1, 1, 1, 0), -3);
        Due.is("sheet missing, n 40", x.sheet(3, 40, 1, 1, 3), -3);
        Due.is("sheet missing, n 41", x.sheet(3, 41, 1, 1, 0), -1);
        Due.is("sheet missing, WEATHER 4", x.sheet(3, 1, 1, 1, 4), -1);
        Due.is("sheet kind 4", x.sheet(4, 1, 1, 1, 0), -1);
        Due.is("sheet kind -1", x.sheet(-1, -1, 1, 1, 0), -1);
        Due.is("count(0)", x.count(0), 0);
    }

    private static void sheetLimit() {
        HallGlass x = new HallGlass();
        for (int i = 1; i < 6; i++) {
            Due.is("sheet of 40 once more", x.sheet(2, 40, i, 0, 0), i * 40);
        }
        Due.is("sheet of 39", x.sheet(1, 39, 5, 0, 0), 239);
        Due.is("sheet of 2 at 239", x.sheet(2, 2, 5, 0, 0), -1);
        Due.is("sheet of 2 bytes at 239", x.sheet(0, 2, 5, 0, 0), -1);
        Due.is("sheet of 1 at 239", x.sheet(2, 1, 77, 0, 0), 240);
        Due.is("sheet of 1 at 240", x.sheet(1, 1, 5, 0, 0), -1);
        Due.is("sheet of 0 at 240", x.sheet(1, 0, 5, 0, 0), 240);
        Due.is("sheet of -1 at 240", x.sheet(1, -1, 5, 0, 0), -2);
        Due.is("sheet missing at 240", x.sheet(3, 1, 5, 0, 0), -3);
        Due.is("of(239, 1)", x.of(239, 1), 77);
    }

    private static void run() {
        HallGlass x = new HallGlass();
        Due.is("run(0)", x.run(0), 0);
        Due.is("run(2)", x.run(2), 2);
        Due.is("run(4)", x.run(4), 6);
        int[][] due = {{2, 502, 1}, {3, 492, 3}, {2, 496, 4}, {2, 505, 7}, {0, 509, 1}, {3, 501, 7}};
        for (int d = 0; d < 6; d++) {
            checkDay(x, d, due[d][0], due[d][1], due[d][2]);
        }
        Due.is("seed(1) behind six DAYS", x.seed(1), -759193129);
    }

    /** Told by a program in another language: unlike WEIGHTS, STEPS, a sum of 0 behind WEATHER 3. */
    private static void runOtherwise() {
        HallGlass x = new HallGlass();
        int[][] weights = {{2, 2, 1, 0}, {3, 0, 2, 4}, {1, 2, 0, 9}, {0, 0, 0, 0}};
        int[] steps = {12, -5, -30, -50};
        for (int from = 0; from < 4; from++) {
            for (int to = 0; to < 4; to++) {
                x.weight(from, to, weights[from][to]);
            }
            x.step(from, steps[from]);
        }
        x.seed(99);
        Due.is("run(10)", x.run(10), 10);
        int[][] due = {{1, 497, 4}, {0, 499, 5}, {2, 462, 6}, {3, 422, 0}, {3, 373, 0}, {3, 316, 1}, {3, 257, 7}, {3, 214, 6}, {3, 168, 3}, {3, 120, 7}};
        for (int d = 0; d < 10; d++) {
            checkDay(x, d, due[d][0], due[d][1], due[d][2]);
        }
        Due.is("seed(1) behind ten DAYS", x.seed(1), 2057301707);
    }

    private static void runAtTheEdges() {
        HallGlass x = new HallGlass();
        for (int to = 0; to < 3; to++) {
            x.weight(0, to, 0);
            x.weight(3, to, 0);
        }
        x.weight(3, 3, 0);
        x.step(3, -50);
        x.run(14);
        int[] low = {452, 401, 348, 302, 254, 214, 168, 124, 66, 23, 0, 0, 0, 0};
        for (int d = 0; d < 14; d++) {
            Due.is("AIR that falls, of(" + d + ", 1)", x.of(d, 1), low[d]);
        }
        Due.is("it stays, of(13, 0)", x.of(13, 0), 3);
        x = new HallGlass();
        x.day(3, 950, 0);
        x.step(2, 50);
        x.weight(3, 0, 0);
        x.weight(3, 1, 0);
        x.weight(3, 3, 0);
        for (int to = 0; to < 4; to++) {
            x.weight(2, to, 0);
        }
        x.run(5);
        Due.is("AIR that rises, of(1, 0)", x.of(1, 0), 2);
        Due.is("AIR that rises, of(1, 1)", x.of(1, 1), 999);
        Due.is("AIR that rises, of(5, 1)", x.of(5, 1), 999);
    }

    private static void runLimit() {
        HallGlass x = new HallGlass();
        Due.is("run(-1)", x.run(-1), -1);
        Due.is("run(101)", x.run(101), -1);
        Due.is("run(least)", x.run(Integer.MIN_VALUE), -1);
        Due.is("run(greatest)", x.run(Integer.MAX_VALUE), -1);
        Due.is("count(0)", x.count(0), 0);
        Due.is("seed(1) behind refusals", x.seed(1), 1);
        Due.is("run(100)", x.run(100), 100);
        Due.is("run(100) again", x.run(100), 200);
        x.seed(7);
        Due.is("run(41) at 200", x.run(41), -1);
        Due.is("R stays", x.seed(7), 7);
        Due.is("count(0) at 200", x.count(0), 200);
        Due.is("run(40) at 200", x.run(40), 240);
        Due.is("run(1) at 240", x.run(1), -1);
        Due.is("run(0) at 240", x.run(0), 240);
    }

    private static void weightStepSeed() {
        HallGlass x = new HallGlass();
        Due.is("weight(3, 0, 9)", x.weight(3, 0, 9), 1);
        Due.is("weight(0, 3, 0)", x.weight(0, 3, 0), 1);
        Due.is("weight(3, 0, 5)", x.weight(3, 0, 5), 9);
        Due.is("weight(0, 3, 5)", x.weight(0, 3, 5), 0);
        Due.is("weight(-1, 0, 5)", x.weight(-1, 0, 5), -1);
        Due.is("weight(4, 0, 5)", x.weight(4, 0, 5), -1);
        Due.is("weight(0, -1, 5)", x.weight(0, -1, 5), -1);
        Due.is("weight(0, 4, 5)", x.weight(0, 4, 5), -1);
        Due.is("weight(0, 0, -1)", x.weight(0, 0, -1), -1);
        Due.is("weight(0, 0, 10)", x.weight(0, 0, 10), -1);
        Due.is("weight(0, 0, 1) behind refusals", x.weight(0, 0, 1), 1);
        Due.is("step(0, -50)", x.step(0, -50), 0);
        Due.is("step(3, 50)", x.step(3, 50), 0);
        Due.none("step(-1, 0)", () -> x.step(-1, 0));
        Due.none("step(4, 0)", () -> x.step(4, 0));
        Due.none("step(0, -51)", () -> x.step(0, -51));
        Due.none("step(0, 51)", () -> x.step(0, 51));
        Due.is("step(0, 1)", x.step(0, 1), -50);
        Due.is("step(3, 1)", x.step(3, 1), 50);
        Due.is("seed(least)", x.seed(Integer.MIN_VALUE), 1);
        Due.is("seed(-5)", x.seed(-5), Integer.MIN_VALUE);
        Due.is("seed(0)", x.seed(0), -5);
    }

    private static void of() {
        HallGlass x = new HallGlass();
        x.day(1, 2, 3);
        checkDay(x, 0, 1, 2, 3);
        Due.is("of(-1, 0)", x.of(-1, 0), -1);
        Due.is("of(1, 0)", x.of(1, 0), -1);
        Due.is("of(0, -1)", x.of(0, -1), -1);
        Due.is("of(0, 3)", x.of(0, 3), -1);
    }
}
