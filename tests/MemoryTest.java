/** Promises 33 to 35. */
public final class MemoryTest {
    public static void main(String[] args) {
        remember();
        rememberRefused();
        drum();
        drumRefused();
        cry();
        Due.end();
    }

    private static HallGlass weekWithSigns() {
        HallGlass x = Due.week();
        x.person(3, 10, 1);
        x.person(2, 10, 1);
        x.person(0, 5, 9);
        x.person(0, 5, 5);
        Due.omen(x, 0, "k=1");
        Due.omen(x, 0, "!k");
        Due.omen(x, 0, "0");
        Due.omen(x, 0, "1");
        return x;
    }

    /** The sign stands on 0, 1, 4, 6, the EVENT (2, 1) comes behind the first of these alone. */
    private static void remember() {
        HallGlass x = weekWithSigns();
        Due.is("remember(0, 0, 20, 2)", x, x.remember(0, 0, 20, 2), 36, 2, 2, 3);
        Due.is("remember(0, 0, 1, 2)", x, x.remember(0, 0, 1, 2), 33, 1, 1, 3);
        Due.is("remember(0, 0, 2, 2)", x, x.remember(0, 0, 2, 2), 36, 2, 2, 3);
        Due.is("remember(1, 0, 2, 2)", x, x.remember(1, 0, 2, 2), 34, 2, 2, 3);
        Due.is("remember(1, 0, 3, 2)", x, x.remember(1, 0, 3, 2), 36, 3, 3, 3);
        Due.is("remember(0, 1, 1, 2)", x, x.remember(0, 1, 1, 2), 33, 1, 1, 3);
        Due.is("remember(0, 3, 20, 1)", x, x.remember(0, 3, 20, 1), 35, 7, 3, 1);
        Due.is("remember(2, 3, 20, 1): to ACT is worse", x, x.remember(2, 3, 20, 1), 25, 0, 0, 5);
        Due.is("remember(3, 3, 20, 1): just alike", x, x.remember(3, 3, 20, 1), 25, 0, 0, 5);
        Due.is("remember(0, 2, 20, 1): never", x, x.remember(0, 2, 20, 1), 50, 0, 0, 5);
        x.start(0, 100);
        x.listen(0, 2);
        Due.is("remember goes by no start", x, x.remember(0, 0, 20, 2), 36, 2, 2, 3);
        HallGlass y = new HallGlass();
        y.glass(0, 0, 0);
        y.person(1, 2, 0);
        Due.omen(y, 0, "1");
        Due.is("remember without DAYS", y, y.remember(0, 0, 1, 1), 0, 0, 0, 0);
    }

    private static void rememberRefused() {
        HallGlass x = weekWithSigns();
        x.table(0, 2, 1);
        Due.is("remember(4, 0, 1, 2)", x, x.remember(4, 0, 1, 2), -1, 1, 3, 2, 2);
        Due.is("remember(-1, 0, 1, 2)", x, x.remember(-1, 0, 1, 2), -1, 1, 3, 2, 2);
        Due.is("remember(0, 4, 1, 2)", x, x.remember(0, 4, 1, 2), -1, 1, 3, 2, 2);
        Due.is("remember(0, -1, 1, 2)", x, x.remember(0, -1, 1, 2), -1, 1, 3, 2, 2);
        Due.is("remember(0, 0, 0, 2)", x, x.remember(0, 0, 0, 2), -1, 1, 3, 2, 2);
        Due.is("remember(0, 0, 21, 2)", x, x.remember(0, 0, 21, 2), -1, 1, 3, 2, 2);
        Due.is("remember(0, 0, 1, 0)", x, x.remember(0, 0, 1, 0), -1, 1, 3, 2, 2);
        Due.is("remember(0, 0, 1, 4)", x, x.remember(0, 0, 1, 4), -1, 1, 3, 2, 2);
    }

    private static void drum() {
        HallGlass x = weekWithSigns();
        Due.is("drum(0, 2, 1, 1)", x, x.drum(0, 2, 1, 1), 4, 4, 3, 0);
        Due.is("drum(0, 2, 2, 1)", x, x.drum(0, 2, 2, 1), 6, 4, 3, 0);
        Due.is("drum(0, 2, 2, 2)", x, x.drum(0, 2, 2, 2), 4, 4, 3, 0);
        Due.is("drum(0, 2, 3, 1)", x, x.drum(0, 2, 3, 1), -2, 4, 3, 0);
        Due.is("drum(0, 2, 1, 0)", x, x.drum(0, 2, 1, 0), -2, 4, 3, 0);
        Due.is("drum(0, 2, 20, 20)", x, x.drum(0, 2, 20, 20), -2, 4, 3, 0);
        Due.is("drum(1, 2, 1, 1)", x, x.drum(1, 2, 1, 1), 3, 4, 2, 2);
        Due.is("drum(3, 2, 1, 1)", x, x.drum(3, 2, 1, 1), 2, 8, 5, 2);
        Due.is("drum(2, 2, 1, 1)", x, x.drum(2, 2, 1, 1), -2, 0, 0, 0);
        for (int i = 0; i < 30; i++) {
            x.day(1, 500, 0);
        }
        Due.is("drum(3, 1, 20, 14)", x, x.drum(3, 1, 20, 14), -2, 38, 3, 0);
        Due.is("drum(3, 1, 20, 20)", x, x.drum(3, 1, 20, 20), 20, 38, 3, 6);
    }

    private static void drumRefused() {
        HallGlass x = weekWithSigns();
        x.table(0, 2, 1);
        Due.is("drum(4, 2, 1, 1)", x, x.drum(4, 2, 1, 1), -1, 1, 3, 2, 2);
        Due.is("drum(-1, 2, 1, 1)", x, x.drum(-1, 2, 1, 1), -1, 1, 3, 2, 2);
        Due.is("drum(0, 0, 1, 1)", x, x.drum(0, 0, 1, 1), -1, 1, 3, 2, 2);
        Due.is("drum(0, 4, 1, 1)", x, x.drum(0, 4, 1, 1), -1, 1, 3, 2, 2);
        Due.is("drum(0, 2, 0, 0)", x, x.drum(0, 2, 0, 0), -1, 1, 3, 2, 2);
        Due.is("drum(0, 2, 21, 1)", x, x.drum(0, 2, 21, 1), -1, 1, 3, 2, 2);
        Due.is("drum(0, 2, 2, -1)", x, x.drum(0, 2, 2, -1), -1, 1, 3, 2, 2);
        Due.is("drum(0, 2, 2, 3)", x, x.drum(0, 2, 2, 3), -1, 1, 3, 2, 2);
    }

    private static void cry() {
        HallGlass x = weekWithSigns();
        x.table(0, 2, 1);
        Due.is("cry(0, 2, 1)", x, x.cry(0, 2, 1), 0, 1, 3, 2, 2);
        Due.is("cry(0, 2, 2)", x, x.cry(0, 2, 2), 0, 1, 3, 2, 2);
        Due.is("cry(0, 2, 3)", x, x.cry(0, 2, 3), 1, 1, 3, 2, 2);
        Due.is("cry(0, 2, 4)", x, x.cry(0, 2, 4), 4, 1, 3, 2, 2);
        Due.is("cry(0, 2, 20)", x, x.cry(0, 2, 20), 20, 1, 3, 2, 2);
        Due.is("cry(2, 2, 1)", x, x.cry(2, 2, 1), 1, 1, 3, 2, 2);
        Due.is("cry(3, 1, 3)", x, x.cry(3, 1, 3), 1, 1, 3, 2, 2);
        Due.is("cry(4, 2, 1)", x, x.cry(4, 2, 1), -1, 1, 3, 2, 2);
        Due.is("cry(-1, 2, 1)", x, x.cry(-1, 2, 1), -1, 1, 3, 2, 2);
        Due.is("cry(0, 0, 1)", x, x.cry(0, 0, 1), -1, 1, 3, 2, 2);
        Due.is("cry(0, 4, 1)", x, x.cry(0, 4, 1), -1, 1, 3, 2, 2);
        Due.is("cry(0, 2, 0)", x, x.cry(0, 2, 0), -1, 1, 3, 2, 2);
        Due.is("cry(0, 2, 21)", x, x.cry(0, 2, 21), -1, 1, 3, 2, 2);
    }
}
