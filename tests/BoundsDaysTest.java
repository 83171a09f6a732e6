/** Promises 1 to 8, sentence by sentence: what is just within a bound, just beyond it, empty, full, turning round. */
public final class BoundsDaysTest {
    public static void main(String[] args) throws Exception {
        Words.of(args[0]);
        newObject();
        day();
        sheetKinds();
        sheet();
        sheetRefused();
        run();
        weight();
        step();
        seed();
        of();
        Words.allOf(1, 8);
        Due.end();
    }

    private static void checkDay(HallGlass x, int day, int weather, int air, int sky) {
        Due.is("of(" + day + ", 0)", x.of(day, 0), weather);
        Due.is("of(" + day + ", 1)", x.of(day, 1), air);
        Due.is("of(" + day + ", 2)", x.of(day, 2), sky);
    }

    private static HallGlass withDays(int n) {
        HallGlass x = new HallGlass();
        for (int left = n; left > 0; left -= 100) {
            x.run(Math.min(100, left));
        }
        return x;
    }

    private static void newObject() {
        Words.test(1, "No DAYS.", () -> {
            HallGlass x = new HallGlass();
            Due.is("count(0)", x.count(0), 0);
            Due.is("of(0, 0)", x.of(0, 0), -1);
            Due.is("of(-1, 0)", x.of(-1, 0), -1);
            x.glass(0, 0, 0);
            Due.none("shown(0, 0, 0)", () -> x.shown(0, 0, 0));
            Due.is("the first DAY is DAY 0", x.day(0, 0, 0), 0);
            Due.is("another object has none", new HallGlass().count(0), 0);
        });
    }

    private static void day() {
        Words.test(2, "A DAY more, as told: its number.", () -> {
            HallGlass x = new HallGlass();
            Due.is("the least", x.day(0, 0, 0), 0);
            Due.is("the greatest", x.day(3, 999, 7), 1);
            Due.is("unlike ones", x.day(1, 2, 3), 2);
            checkDay(x, 0, 0, 0, 0);
            checkDay(x, 1, 3, 999, 7);
            checkDay(x, 2, 1, 2, 3);
            Due.is("count(0)", x.count(0), 3);
        });
        Words.test(2, "Refused: others, 240.", () -> {
            Object[] right = Twin.args(1, 500, 3);
            Twin.bounds(-1, "day", right, 0, 0, 3);
            Twin.bounds(-1, "day", right, 1, 0, 999);
            Twin.bounds(-1, "day", right, 2, 0, 7);
            Twin.refuses(Twin::full, -1, "day", 1, 500, 3);
            HallGlass x = withDays(239);
            Due.is("the last", x.day(1, 2, 3), 239);
            Due.is("one more", x.day(1, 2, 3), -1);
            Due.is("count(0)", x.count(0), 240);
        });
    }

    private static void checkSheet(int kind, int f, int due) {
        HallGlass x = new HallGlass();
        Due.is("sheet of kind " + kind + " of " + f, x.sheet(kind, 1, f, 0, 0), 1);
        Due.is("AIR by kind " + kind + " of " + f, x.of(0, 1), due);
    }

    private static void sheetKinds() {
        Words.test(3, "DAYS more, AIR as a sheet tells it: bytes (kind 0), shorts (1), ints (2) of n entries f, f + step, ..", () -> {
            for (int kind = 0; kind <= 2; kind++) {
                HallGlass x = new HallGlass();
                Due.is("three", x.sheet(kind, 3, 10, 20, 0), 3);
                Due.is("two, downwards", x.sheet(kind, 2, 10, -4, 0), 5);
                Due.is("one, whatever the step is", x.sheet(kind, 1, 9, Integer.MAX_VALUE, 0), 6);
                Due.is("none", x.sheet(kind, 0, 9, 9, 0), 6);
                int[] due = {10, 30, 50, 10, 6, 9};
                for (int d = 0; d < 6; d++) {
                    Due.is("kind " + kind + ", of(" + d + ", 1)", x.of(d, 1), due[d]);
                }
            }
            HallGlass x = new HallGlass();
            x.sheet(0, 3, 126, 1, 0);
            x.sheet(1, 3, 32766, 1, 0);
            x.sheet(2, 3, Integer.MAX_VALUE, 1, 0);
            x.sheet(2, 3, Integer.MIN_VALUE, -1, 0);
            x.sheet(2, 3, 5, Integer.MIN_VALUE, 0);
            int[] due = {126, 127, 0, 999, 999, 0, 999, 0, 0, 0, 999, 999, 5, 0, 5};
            for (int d = 0; d < due.length; d++) {
                Due.is("turning round, of(" + d + ", 1)", x.of(d, 1), due[d]);
            }
        });
        Words.test(3, "(of bytes, shorts the lowest bits, with their sign; below 0: 0, above 999: 999),", () -> {
            int[][] bytes = {{0, 0}, {1, 1}, {127, 127}, {128, 0}, {255, 0}, {256, 0}, {257, 1}, {383, 127}, {384, 0}, {-1, 0},
                {-128, 0}, {-129, 127}, {-255, 1}, {999, 0}, {1000, 0}, {1023, 0}, {1024 + 9, 9}, {Integer.MAX_VALUE, 0},
                {Integer.MIN_VALUE, 0}, {Integer.MIN_VALUE + 7, 7}};
            for (int[] b : bytes) {
                checkSheet(0, b[0], b[1]);
            }
            int[][] shorts = {{0, 0}, {1, 1}, {998, 998}, {999, 999}, {1000, 999}, {32767, 999}, {32768, 0}, {65535, 0}, {65536, 0},
                {65537, 1}, {65536 + 999, 999}, {-1, 0}, {-32768, 0}, {-32769, 999}, {-65535, 1}, {-65536 + 998, 998},
                {Integer.MAX_VALUE, 0}, {Integer.MIN_VALUE, 0}, {Integer.MIN_VALUE + 7, 7}};
            for (int[] s : shorts) {
                checkSheet(1, s[0], s[1]);
            }
            int[][] ints = {{0, 0}, {1, 1}, {-1, 0}, {998, 998}, {999, 999}, {1000, 999}, {32768, 999}, {65536, 999}, {-32769, 0},
                {-65535, 0}, {Integer.MAX_VALUE, 999}, {Integer.MIN_VALUE, 0}};
            for (int[] i : ints) {
                checkSheet(2, i[0], i[1]);
            }
        });
    }

    private static void sheet() {
        Words.test(3, "or a missing one (3),", () -> {
            for (int n : new int[] {Integer.MIN_VALUE, -1, 0, 1, 40}) {
                Twin.refuses(-3, "sheet", 3, n, 1, 1, 0);
            }
        });
        Words.test(3, "all of a WEATHER, SKY 0: how many DAYS there are then.", () -> {
            HallGlass x = new HallGlass();
            x.day(1, 1, 7);
            for (int w = 0; w <= 3; w++) {
                Due.is("WEATHER " + w, x.sheet(w % 3, 2, 5, 1, w), 3 + 2 * w);
                checkDay(x, 1 + 2 * w, w, 5, 0);
                checkDay(x, 2 + 2 * w, w, 6, 0);
            }
            Due.is("none", x.sheet(1, 0, 5, 1, 3), 9);
            Due.is("40", x.sheet(1, 40, 5, 1, 3), 49);
            checkDay(x, 48, 3, 44, 0);
            Due.is("count(0)", x.count(0), 49);
        });
        Words.test(3, "-2: n below 0 (of kinds 0 .. 2);", () -> {
            for (int kind = 0; kind <= 2; kind++) {
                Twin.refuses(-2, "sheet", kind, -1, 1, 1, 0);
                Twin.refuses(-2, "sheet", kind, Integer.MIN_VALUE, 1, 1, 3);
                Twin.refuses(Twin::full, -2, "sheet", kind, -1, 1, 1, 0);
                Due.is("n 0", new HallGlass().sheet(kind, 0, 1, 1, 0), 0);
            }
        });
        Words.test(3, "-3: missing;", () -> {
            Twin.refuses(-3, "sheet", 3, 5, 1, 1, 3);
            Twin.refuses(Twin::full, -3, "sheet", 3, 5, 1, 1, 3);
        });
    }

    private static void sheetRefused() {
        Words.test(3, "NONE: another kind, WEATHER,", () -> {
            Object[] right = Twin.args(2, 5, 1, 1, 1);
            Twin.bounds(-1, "sheet", right, 0, 0, 3);
            for (int kind = 0; kind <= 3; kind++) {
                right[0] = kind;
                Twin.bounds(-1, "sheet", right, 4, 0, 3);
            }
        });
        Words.test(3, "n above 40,", () -> {
            for (int kind = 0; kind <= 3; kind++) {
                Twin.refusesEach(-1, "sheet", Twin.args(kind, 0, 1, 1, 1), 1, 41, 42, Integer.MAX_VALUE);
            }
            Due.is("n 40", new HallGlass().sheet(0, 40, 1, 1, 1), 40);
        });
        Words.test(3, "of kinds 0 .. 2 above 240 DAYS", () -> {
            for (int kind = 0; kind <= 2; kind++) {
                HallGlass x = withDays(200);
                Due.is("40 at 200", x.sheet(kind, 40, 1, 1, 1), 240);
                Due.is("none at 240", x.sheet(kind, 0, 1, 1, 1), 240);
                Twin.refuses(Twin::full, -1, "sheet", kind, 1, 1, 1, 1);
                HallGlass y = withDays(201);
                int r = y.seed(5);
                Due.is("40 at 201", y.sheet(kind, 40, 1, 1, 1), -1);
                Due.is("count(0)", y.count(0), 201);
                Due.is("39 at 201", y.sheet(kind, 39, 1, 1, 1), 240);
                Due.is("R is not gone on", r == withDays(201).seed(0), true);
            }
            Due.is("missing at 240", withDays(240).sheet(3, 1, 1, 1, 1), -3);
        });
        Words.test(3, "(these first).", () -> {
            HallGlass x = withDays(240);
            Due.is("another kind, n below 0", x.sheet(4, -1, 1, 1, 1), -1);
            Due.is("another kind, n below 0", x.sheet(-1, -1, 1, 1, 1), -1);
            for (int kind = 0; kind <= 2; kind++) {
                Due.is("another WEATHER, n below 0", x.sheet(kind, -1, 1, 1, 4), -1);
                Due.is("another WEATHER, n below 0", x.sheet(kind, -1, 1, 1, -1), -1);
            }
            Due.is("another WEATHER, missing", x.sheet(3, 1, 1, 1, 4), -1);
            Due.is("n above 40, missing", x.sheet(3, 41, 1, 1, 1), -1);
        });
    }

    private static void run() {
        Words.test(4, "n DAYS more are MADE (0 .. 100): how many DAYS there are then.", () -> {
            HallGlass x = new HallGlass();
            Due.is("run(0)", x.run(0), 0);
            Due.is("R behind none", x.seed(1), 1);
            Due.is("run(1)", x.run(1), 1);
            Due.is("run(100)", x.run(100), 101);
            HallGlass y = new HallGlass();
            for (int i = 0; i < 101; i++) {
                y.run(1);
            }
            for (int d = 0; d < 101; d += 10) {
                checkDay(y, d, x.of(d, 0), x.of(d, 1), x.of(d, 2));
            }
            Due.is("one by one or at once, R is the same", y.seed(0), x.seed(0));
        });
        Words.test(4, "Refused: others, above 240.", () -> {
            Twin.bounds(-1, "run", Twin.args(5), 0, 0, 100);
            Twin.refuses(Twin::full, -1, "run", 1);
            Twin.refuses(Twin::full, -1, "run", 100);
            HallGlass x = withDays(141);
            int r = x.seed(77);
            Due.is("run(100) at 141", x.run(100), -1);
            Due.is("R is not gone on", x.seed(r), 77);
            Due.is("count(0)", x.count(0), 141);
            Due.is("run(99) at 141", x.run(99), 240);
            Due.is("run(0) at 240", x.run(0), 240);
            Due.is("run(100) at 140", withDays(140).run(100), 240);
        });
    }

    private static void weight() {
        Words.test(5, "WEIGHT of a WEATHER behind one becomes v: what it was.", () -> {
            HallGlass x = new HallGlass();
            for (int i = 0; i < 16; i++) {
                Due.is("at first", x.weight(i / 4, i % 4, i % 10), 1);
            }
            for (int i = 0; i < 16; i++) {
                Due.is("then", x.weight(i / 4, i % 4, 9), i % 10);
            }
            HallGlass y = new HallGlass();
            y.weight(1, 0, 0);
            y.weight(1, 1, 0);
            y.weight(1, 2, 0);
            y.day(1, 500, 0);
            y.run(1);
            Due.is("behind 1 comes 3 alone", y.of(1, 0), 3);
        });
        Words.test(5, "Refused: others.", () -> {
            Object[] right = Twin.args(1, 2, 3);
            Twin.bounds(-1, "weight", right, 0, 0, 3);
            Twin.bounds(-1, "weight", right, 1, 0, 3);
            Twin.bounds(-1, "weight", right, 2, 0, 9);
        });
    }

    private static void step() {
        Words.test(6, "STEP of a WEATHER becomes v: what it was.", () -> {
            HallGlass x = new HallGlass();
            for (int w = 0; w < 4; w++) {
                Due.is("at first", x.step(w, w - 50), 0);
            }
            for (int w = 0; w < 4; w++) {
                Due.is("then", x.step(w, 50 - w), w - 50);
            }
            Due.is("-1 is a STEP as others are", x.step(0, -1), 50);
            Due.is("and is told so", x.step(0, 0), -1);
        });
        Words.test(6, "NoSuchElementException: others.", () -> {
            Object[] right = Twin.args(1, 3);
            Twin.bounds(Twin.THROWS, "step", right, 0, 0, 3);
            Twin.bounds(Twin.THROWS, "step", right, 1, -50, 50);
        });
    }

    private static void seed() {
        Words.test(7, "R becomes v: what it was.", () -> {
            HallGlass x = new HallGlass();
            int before = 1;
            for (int v : new int[] {0, -1, 1, Integer.MIN_VALUE, Integer.MAX_VALUE, 7}) {
                Due.is("seed(" + v + ")", x.seed(v), before);
                before = v;
            }
            x.seed(0);
            x.run(1);
            // R is 12345, then -740551042, then -1492899873
            Due.is("WEATHER behind R 0", x.of(0, 0), 0);
            Due.is("R behind it", x.seed(0), -1492899873);
        });
    }

    private static void of() {
        Words.test(8, "Of a DAY, what 0: WEATHER, 1: AIR, 2: SKY.", () -> {
            HallGlass x = new HallGlass();
            x.day(3, 999, 7);
            checkDay(x, 0, 3, 999, 7);
            HallGlass y = withDays(239);
            y.day(2, 1, 6);
            checkDay(y, 239, 2, 1, 6);
        });
        Words.test(8, "NONE: none such, another what.", () -> {
            Twin.bounds(-1, "of", Twin.args(1, 1), 0, 0, 10);
            Twin.bounds(-1, "of", Twin.args(1, 1), 1, 0, 2);
            Due.is("of the last of 240", withDays(240).of(239, 0) >= 0, true);
            Due.is("of one more", withDays(240).of(240, 0), -1);
            HallGlass x = withDays(5);
            x.keep(0);
            x.run(1);
            x.again(0);
            Due.is("of one that is gone", x.of(5, 0), -1);
        });
    }
}
