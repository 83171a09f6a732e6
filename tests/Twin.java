import java.lang.reflect.InvocationTargetException;
import java.lang.reflect.Method;
import java.util.ArrayList;
import java.util.Arrays;
import java.util.List;
import java.util.NoSuchElementException;
import java.util.function.Supplier;

/**
 * What a refused call answers and leaves as it was: of two objects alike one has the call, and then both
 * must answer a long list of questions alike, about all that an object holds.
 */
final class Twin {
    /** Told in place of an answer: the call is due to throw NoSuchElementException. */
    static final String THROWS = "NoSuchElementException";

    private Twin() {
    }

    // ---- objects that hold something of everything

    /** None of its lists is full, so a call on it is refused for what it is told alone. */
    static HallGlass rich() {
        HallGlass x = new HallGlass();
        int[] airs = {500, 490, 505, 480, 495, 500, 490, 470, 455, 470, 520};
        String weathers = "02013001202";
        for (int d = 0; d < airs.length; d++) {
            if (d == 4) {
                x.keep(0);
            }
            x.day(weathers.charAt(d) - '0', airs[d], d % 3);
        }
        x.weight(0, 1, 5);
        x.weight(2, 3, 0);
        x.step(0, 7);
        x.step(3, -20);
        x.seed(-77);
        x.keep(1);
        x.glass(10, 5, 12);
        x.glass(100, -20, 3);
        x.glass(0, 0, 0);
        x.tap(1, false);
        int[][] marks = {{0, 480}, {0, 500}, {1, 370}, {1, 385}, {1, 390}, {2, 495}};
        for (int[] m : marks) {
            x.mark(m[0], m[1]);
        }
        Due.omen(x, 0, "k=1");
        Due.omen(x, 1, "f>5|t>1");
        Due.omen(x, 2, "!w");
        x.person(3, 10, 1);
        x.person(2, 20, 4);
        x.person(9, 9, 0);
        x.start(1, 3);
        x.listen(0, 6);
        x.listen(2, 1);
        int[][] told = {{1, 0}, {2, 3}, {3, 1}, {4, 2}, {6, 0}, {200, 3}};
        for (int[] t : told) {
            x.valley(t[0], t[1]);
            x.telling(t[0] + 1, t[1] * 30);
        }
        x.see(100, 105);
        x.see(105, 108);
        x.see(120, 120);
        x.sign('1' << 24 | '+' << 16 | '2' << 8 | '(');
        x.end(3);
        x.table(0, 2, 1);
        return x;
    }

    /** As full as an object can be, but for what is told of single DAYS. */
    static HallGlass full() {
        HallGlass x = new HallGlass();
        x.run(100);
        x.run(100);
        x.keep(2);
        x.run(40);
        for (int g = 0; g < 4; g++) {
            x.glass(g * 20, g, 10 * g);
            x.tap(g, g % 2 == 0);
            for (int m = 0; m < 8; m++) {
                x.mark(g, 420 + m * 20 + g);
            }
        }
        String[] signs = {"w", "f>3", "t>1", "k=2", "d<99", "y=t", "w>4&k<4", "p>450", "!t", "k+t>6"};
        for (int i = 0; i < 10; i++) {
            Due.omen(x, i % 4, signs[i]);
        }
        for (int p = 0; p < 6; p++) {
            x.person(p + 1, 20 - p, p);
            x.listen(p, (1 << p) - 1);
        }
        for (int i = 0; i < 20; i++) {
            x.see(100, 100);
        }
        for (int i = 0; i < 15; i++) {
            x.sign('1' << 24 | '+' << 16 | '1' << 8 | '+');
        }
        x.table(3, 2, 1);
        return x;
    }

    // ---- calls told by name

    /** The answer, with false and true as they are; or THROWS. */
    static Object answer(HallGlass x, String name, Object... a) {
        for (Method m : HallGlass.class.getDeclaredMethods()) {
            if (m.getName().equals(name) && java.lang.reflect.Modifier.isPublic(m.getModifiers())) {
                try {
                    return m.invoke(x, a);
                } catch (InvocationTargetException e) {
                    boolean due = e.getCause().getClass() == NoSuchElementException.class;
                    return due ? THROWS : e.getCause().toString();
                } catch (IllegalAccessException e) {
                    return e.toString();
                }
            }
        }
        return "no call " + name;
    }

    /** On an object that holds something of everything, this call is refused so, and changes nothing. */
    static void refuses(Object due, String name, Object... a) {
        refuses(Twin::rich, due, name, a);
    }

    static void refuses(Supplier<HallGlass> state, Object due, String name, Object... a) {
        HallGlass x = state.get();
        String told = name + Arrays.toString(a).replace('[', '(').replace(']', ')');
        Due.same(told, answer(x, name, a), due);
        alike(told + " behind which ", x, state.get());
    }

    /** The same, for each value told of the argument at a place. */
    static void refusesEach(Object due, String name, Object[] right, int place, Object... wrong) {
        for (Object v : wrong) {
            Object[] a = right.clone();
            a[place] = v;
            refuses(due, name, a);
        }
    }

    /** The argument at a place: refused just beyond its bounds and as far as can be, taken just within them. */
    static void bounds(Object due, String name, Object[] right, int place, int least, int most) {
        beyond(due, name, right, place, least, most);
        for (int v : new int[] {least, most}) {
            Object[] a = right.clone();
            a[place] = v;
            Due.same(name + Arrays.toString(a) + " is refused", answer(rich(), name, a).equals(due), false);
        }
    }

    static void beyond(Object due, String name, Object[] right, int place, int least, int most) {
        refusesEach(due, name, right, place, least - 1, most + 1, Integer.MIN_VALUE, Integer.MAX_VALUE);
    }

    static Object[] args(Object... a) {
        return a;
    }

    /** The two answer all questions alike. */
    static void alike(String what, HallGlass x, HallGlass other) {
        List<String> got = new ArrayList<>();
        List<String> want = new ArrayList<>();
        ask(x, got);
        ask(other, want);
        for (int i = 0; i < want.size(); i++) {
            Due.same(what + want.get(i).replaceAll(" .*", ""), got.get(i), want.get(i));
        }
    }

    // ---- the questions

    private static void ask(HallGlass x, List<String> told) {
        askStanding(x, told);
        askText(x, told);
        askTellings(x, told);
        askPersons(x, told);
        askMarks(x, told);
        askChances(x, told);
        askKept(x, told);
    }

    private static void one(HallGlass x, List<String> told, String name, Object... a) {
        StringBuilder b = new StringBuilder(name);
        b.append(Arrays.toString(a).replace(" ", "")).append(" ").append(answer(x, name, a));
        told.add(b.toString());
    }

    private static void withRow(HallGlass x, List<String> told, String name, Object... a) {
        one(x, told, name, a);
        for (int i = 0; i < x.count(6); i++) {
            told.add("row(" + i + ")behind" + name + " " + x.row(i));
        }
    }

    /** What can be asked for without a change, the ROW among it: some 250 calls. */
    private static void askStanding(HallGlass x, List<String> told) {
        for (int what = 0; what <= 8; what++) {
            one(x, told, "count", what);
        }
        for (int i = 0; i <= x.count(6); i++) {
            one(x, told, "row", i);
        }
        for (int d = 0; d < Math.min(12, x.count(0)); d++) {
            for (int what = 0; what < 3; what++) {
                one(x, told, "of", d, what);
            }
            for (int s = 0; s < Math.min(3, x.count(2)); s++) {
                one(x, told, "value", s, d);
            }
            for (int g = 0; g < Math.min(3, x.count(1)); g++) {
                one(x, told, "shown", g, d, 1);
                one(x, told, "shown", g, d, 3);
            }
        }
    }

    private static void askText(HallGlass x, List<String> told) {
        one(x, told, "omen", 0);
        if (x.count(2) > 3) {
            one(x, told, "value", 3, 0);
        }
    }

    private static void askTellings(HallGlass x, List<String> told) {
        withRow(x, told, "judge", 2, 1);
        withRow(x, told, "judge", 1, 0);
        for (int i = 0; i <= 10; i += 3) {
            withRow(x, told, "told", i, 2);
        }
        withRow(x, told, "elsewhere", 0, 2, 1);
        withRow(x, told, "elsewhere", 0, 1, 2);
        one(x, told, "valley", 5, 1);
        one(x, told, "valley", 200, 1);
        one(x, told, "telling", 1, 1);
        one(x, told, "telling", 201, 1);
        withRow(x, told, "sticks");
        one(x, told, "see", 120, 121);
        withRow(x, told, "sticks");
    }

    private static void askPersons(HallGlass x, List<String> told) {
        for (int p = 0; p < Math.min(3, x.count(3)); p++) {
            withRow(x, told, "line", p);
            withRow(x, told, "blind", p, 2, 1);
            withRow(x, told, "village", p, 0, 2, 1);
            one(x, told, "start", p, 0);
            one(x, told, "listen", p, 0);
        }
        one(x, told, "person", 1, 2, 3);
    }

    private static void askMarks(HallGlass x, List<String> told) {
        for (int g = 0; g < x.count(1); g++) {
            one(x, told, "shown", g, 1, 0);
            one(x, told, "tap", g, false);
            one(x, told, "shown", g, 1, 2);
            one(x, told, "shown", g, 2, 2);
            one(x, told, "mark", g, -999);
        }
        one(x, told, "glass", 1, 1, 1);
    }

    private static void askChances(HallGlass x, List<String> told) {
        int r = x.seed(4711);
        told.add("seed " + r);
        x.seed(r);
        int first = x.count(0);
        one(x, told, "run", 4);
        for (int d = first; d < x.count(0); d++) {
            one(x, told, "of", d, 0);
            one(x, told, "of", d, 1);
        }
        for (int from = 0; from < 4; from++) {
            for (int to = 0; to < 4; to++) {
                one(x, told, "weight", from, to, 2);
            }
            one(x, told, "step", from, 3);
        }
    }

    private static void askKept(HallGlass x, List<String> told) {
        for (int i = 2; i >= 0; i--) {
            one(x, told, "again", i);
            one(x, told, "count", 0);
            one(x, told, "seed", i);
        }
    }
}
