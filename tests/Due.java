import java.util.NoSuchElementException;

/** What the tests share: they say what is due, and end with exit code 1 if something else came. */
final class Due {
    private static int wrong;
    private static int asked;
    private static String under = "";

    private Due() {
    }

    /** What is told ahead of all that is found wrong from now on. */
    static void under(String where) {
        under = where;
    }

    static void is(String what, long got, long want) {
        asked++;
        if (got != want) {
            wrong++;
            System.out.println(under + what + " answered " + got + ", due is " + want);
        }
    }

    static void same(String what, Object got, Object want) {
        asked++;
        if (!got.equals(want)) {
            wrong++;
            System.out.println(under + what + " answered " + got + ", due is " + want);
        }
    }

    static void is(String what, boolean got, boolean want) {
        is(what, got ? 1 : 0, want ? 1 : 0);
    }

    /** The whole ROW, with nothing ahead of it or behind. */
    static void row(String what, HallGlass x, long... want) {
        is(what + ": numbers of the ROW", x.count(6), want.length);
        for (int i = 0; i < want.length && i < x.count(6); i++) {
            is(what + ": row(" + i + ")", x.row(i), want[i]);
        }
        none(what + ": row(-1)", () -> x.row(-1));
        none(what + ": row(" + want.length + ")", () -> x.row(want.length));
    }

    /** An answer with its ROW. */
    static void is(String what, HallGlass x, long got, long want, long... row) {
        is(what, got, want);
        row(what, x, row);
    }

    static void none(String what, Runnable call) {
        asked++;
        try {
            call.run();
        } catch (NoSuchElementException e) {
            return;
        } catch (RuntimeException e) {
            wrong++;
            System.out.println(under + what + " threw " + e + ", due is NoSuchElementException");
            return;
        }
        wrong++;
        System.out.println(under + what + " threw nothing, due is NoSuchElementException");
    }

    /** DAYS more, of weathers and skies told as digits, all of one AIR. */
    static void days(HallGlass x, String weathers, String skies) {
        for (int i = 0; i < weathers.length(); i++) {
            x.day(weathers.charAt(i) - '0', 500, skies.charAt(i) - '0');
        }
    }

    static void airs(HallGlass x, int... airs) {
        for (int air : airs) {
            x.day(0, air, 0);
        }
    }

    /** THE TEXT becomes this one. */
    static void text(HallGlass x, String s) {
        x.end(0);
        for (int i = 0; i < s.length(); i += 4) {
            int v = 0;
            for (int j = i; j < i + 4; j++) {
                v = v << 8 | (j < s.length() ? s.charAt(j) : '?');
            }
            x.sign(v);
        }
        x.end(s.length());
    }

    static int omen(HallGlass x, int glass, String s) {
        text(x, s);
        return x.omen(glass);
    }

    /**
     * The DAYS of many tests, with glass 0: the sky is 1 on 0, 1, 4, 6, 8; behind 0, 3, 7 comes
     * the EVENT (2, 1), behind 0, 2, 3, 6, 7 the EVENT (1, 1), behind 0, 2, 3, 6 the EVENT (2, 2).
     */
    static HallGlass week() {
        HallGlass x = new HallGlass();
        days(x, "020130012", "110010101");
        x.glass(0, 0, 0);
        return x;
    }

    static void end() {
        System.out.println(asked + " asked, " + wrong + " wrong");
        if (wrong != 0) {
            System.exit(1);
        }
    }
}
