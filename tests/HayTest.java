/** Promises 36 and 37. */
public final class HayTest {
    public static void main(String[] args) {
        mow();
        mowRefused();
        fields();
        fieldsOfMany();
        Due.end();
    }

    private static HallGlass meadow() {
        HallGlass x = new HallGlass();
        Due.days(x, "00010000200", "00000000000");
        x.glass(0, 0, 0);
        Due.omen(x, 0, "1");
        Due.omen(x, 0, "d=1|d=4");
        Due.omen(x, 0, "0");
        Due.omen(x, 0, "d=3|d=8|d=9|d=10");
        return x;
    }

    private static void mow() {
        HallGlass x = meadow();
        Due.is("mow(0, 2)", x, x.mow(0, 2), 2, 1, 0);
        Due.is("mow(1, 2)", x, x.mow(1, 2), 1, 1, 3);
        Due.is("mow(2, 2)", x, x.mow(2, 2), 0, 0, 9);
        Due.is("mow(3, 2)", x, x.mow(3, 2), 2, 0, 5);
        Due.is("mow(0, 1)", x, x.mow(0, 1), 4, 1, 0);
        Due.is("mow(0, 3)", x, x.mow(0, 3), 1, 1, 0);
        Due.is("mow(0, 6)", x, x.mow(0, 6), 0, 2, 0);
        Due.is("mow(2, 6)", x, x.mow(2, 6), 0, 0, 5);
        Due.omen(x, 0, "w");
        x.mark(0, 500);
        Due.is("mow by a glass", x, x.mow(4, 2), 2, 1, 0);
        HallGlass y = new HallGlass();
        Due.days(y, "000000", "000000");
        y.glass(0, 0, 0);
        Due.omen(y, 0, "1");
        Due.is("mow of no DAY with 6 behind it", y, y.mow(0, 6), 0, 0, 0);
        y.day(0, 0, 0);
        Due.is("mow of one DAY with 6 behind it", y, y.mow(0, 6), 1, 0, 0);
        y.day(0, 0, 0);
        Due.is("mow of all 7", y, y.mow(0, 6), 1, 0, 0);
        Due.is("mow a WEATHER of the DAY of cutting is free", meadowOfRain().mow(0, 1), 2);
    }

    private static HallGlass meadowOfRain() {
        HallGlass x = new HallGlass();
        Due.days(x, "3020", "0000");
        x.glass(0, 0, 0);
        Due.omen(x, 0, "1");
        return x;
    }

    private static void mowRefused() {
        HallGlass x = meadow();
        x.mow(1, 2);
        Due.is("mow(4, 2)", x, x.mow(4, 2), -1, 1, 3);
        Due.is("mow(-1, 2)", x, x.mow(-1, 2), -1, 1, 3);
        Due.is("mow(0, 0)", x, x.mow(0, 0), -1, 1, 3);
        Due.is("mow(0, 7)", x, x.mow(0, 7), -1, 1, 3);
    }

    private static void fields() {
        HallGlass x = meadow();
        Due.is("fields(2)", x, x.fields(2), 3, 0, 3, 8);
        Due.is("fields(1)", x, x.fields(1), 4, 0, 3, 5, 8);
        Due.is("fields(4)", x, x.fields(4), 1, 3);
        Due.is("fields(0)", x, x.fields(0), -1, 3);
        Due.is("fields(7)", x, x.fields(7), -1, 3);
        Due.is("fields(5)", x, x.fields(5), 0);
        HallGlass y = new HallGlass();
        Due.is("fields without DAYS", y, y.fields(1), 0);
        HallGlass z = meadowOfRain();
        Due.is("fields of rain with its ROW", z, z.fields(1), 2, 0, 2);
    }

    private static void fieldsOfMany() {
        HallGlass x = new HallGlass();
        for (int d = 0; d < 240; d++) {
            x.day(0, 500, 0);
        }
        long[] two = new long[20];
        long[] seven = new long[20];
        for (int i = 0; i < 20; i++) {
            two[i] = 2 * i;
            seven[i] = 7 * i;
        }
        Due.is("fields(1) of 240", x, x.fields(1), 120, two);
        Due.is("fields(6) of 240", x, x.fields(6), 34, seven);
    }
}
