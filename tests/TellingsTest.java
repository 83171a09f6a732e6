/** Promises 45 to 48, on Due.week() with the EVENT (2, 1): behind DAYS 0, 3, 7 of 0 .. 7. */
public final class TellingsTest {
    public static void main(String[] args) {
        telling();
        judge();
        judgeRefused();
        hedge();
        told();
        Due.end();
    }

    private static void telling() {
        HallGlass x = new HallGlass();
        Due.is("telling(-1, 0)", x.telling(-1, 0), -1);
        Due.is("telling(240, 0)", x.telling(240, 0), -1);
        Due.is("telling(0, -1)", x.telling(0, -1), -1);
        Due.is("telling(0, 101)", x.telling(0, 101), -1);
        Due.is("count(4)", x.count(4), 0);
        Due.is("telling(0, 0)", x.telling(0, 0), 1);
        Due.is("telling(239, 100)", x.telling(239, 100), 2);
        Due.is("telling(239, 0)", x.telling(239, 0), 2);
        Due.is("telling(5, 5)", x.telling(5, 5), 3);
        Due.is("count(4) then", x.count(4), 3);
    }

    private static HallGlass weekWithTellings() {
        HallGlass x = Due.week();
        int[][] told = {{0, 90}, {1, 20}, {3, 40}, {4, 9}, {7, 0}, {7, 100}, {8, 50}, {100, 1}};
        for (int[] t : told) {
            x.telling(t[0], t[1]);
        }
        return x;
    }

    private static void judge() {
        HallGlass x = weekWithTellings();
        Due.is("judge(2, 0)", x, x.judge(2, 0), 0, 100 + 400 + 3600 + 81, 12000, 60);
        Due.is("judge(2, 1)", x, x.judge(2, 1), 0, 10 + 20 + 60 + 9, 200, 100);
        Due.is("judge(3, 0)", x, x.judge(3, 0), 0, 8100 + 400 + 3600 + 81 + 10000, 8000, 20);
        Due.is("judge(3, 1)", x, x.judge(3, 1), 0, 90 + 20 + 60 + 9 + 100, 100, 0);
        Due.is("judge(1, 1)", x, x.judge(1, 1), 0, 10 + 20 + 60 + 9, 200, 100);
        x.telling(2, 70);
        Due.is("judge(2, 1): what comes two DAYS behind", x, x.judge(2, 1), 0, 169, 300, 0);
        x.telling(2, 0);
        Due.is("judge(2, 1): told again", x, x.judge(2, 1), 0, 99, 300, 0);
        x = weekWithTellings();
        x.telling(5, 30);
        Due.is("judge(2, 1) of equal ones", x, x.judge(2, 1), 0, 129, 300, 0);
        Due.is("judge(2, 0) with a DAY more", x, x.judge(2, 0), 0, 5081, 15000, 50);
    }

    private static void judgeRefused() {
        HallGlass x = Due.week();
        x.telling(8, 50);
        x.table(0, 2, 1);
        Due.is("judge of no KNOWN DAY", x.judge(2, 0), -2);
        Due.row("judge of no KNOWN DAY", x);
        x.telling(0, 50);
        Due.is("judge of one", x, x.judge(2, 0), 0, 2500, 0, 100);
        Due.is("judge(0, 0)", x, x.judge(0, 0), -1, 2500, 0, 100);
        Due.is("judge(4, 0)", x, x.judge(4, 0), -1, 2500, 0, 100);
        Due.is("judge(1, -1)", x, x.judge(1, -1), -1, 2500, 0, 100);
        Due.is("judge(1, 2)", x, x.judge(1, 2), -1, 2500, 0, 100);
        HallGlass y = new HallGlass();
        y.telling(0, 50);
        Due.is("judge without DAYS", y.judge(1, 1), -2);
        y.day(0, 0, 0);
        Due.is("judge with one DAY", y.judge(1, 1), -2);
        y.day(3, 0, 0);
        Due.is("judge with two DAYS", y, y.judge(1, 1), 0, 50, 0, 100);
    }

    private static void hedge() {
        HallGlass x = new HallGlass();
        for (int p = 0; p <= 100; p++) {
            long own = 100L * p * (100 - p);
            Due.is("hedge(" + p + ", 0)", x, x.hedge(p, 0), p, own, own);
            Due.is("hedge(" + p + ", 1)", x, x.hedge(p, 1), p > 50 ? 100 : 0, 100L * Math.min(p, 100 - p),
                    2L * p * (100 - p));
        }
        Due.is("hedge(-1, 0)", x, x.hedge(-1, 0), -1, 0, 0);
        Due.is("hedge(101, 0)", x, x.hedge(101, 0), -1, 0, 0);
        Due.is("hedge(1, -1)", x, x.hedge(1, -1), -1, 0, 0);
        Due.is("hedge(1, 2)", x, x.hedge(1, 2), -1, 0, 0);
    }

    private static void told() {
        HallGlass x = weekWithTellings();
        Due.is("told(10, 2)", x, x.told(10, 2), 1, 1);
        Due.is("told(9, 2)", x, x.told(9, 2), 1, 1);
        Due.is("told(5, 2): not KNOWN", x, x.told(5, 2), 0, 0);
        Due.is("told(0, 2)", x, x.told(0, 2), 1, 0);
        x.telling(5, 0);
        x.telling(3, 0);
        x.telling(2, 10);
        Due.is("told(0, 2) then", x, x.told(0, 2), 3, 1);
        Due.is("told(1, 2)", x, x.told(1, 2), 1, 0);
        Due.is("told(1, 1)", x, x.told(1, 1), 1, 1);
        x.telling(2, 99);
        Due.is("told(9, 1)", x, x.told(9, 1), 2, 2);
        Due.is("told(9, 3)", x, x.told(9, 3), 2, 0);
        Due.is("told(-1, 2)", x, x.told(-1, 2), -1, 0);
        Due.is("told(11, 2)", x, x.told(11, 2), -1, 0);
        Due.is("told(1, 0)", x, x.told(1, 0), -1, 0);
        Due.is("told(1, 4)", x, x.told(1, 4), -1, 0);
    }
}
