import java.lang.reflect.InvocationTargetException;
import java.lang.reflect.Method;
import java.util.ArrayList;
import java.util.Arrays;
import java.util.Comparator;
import java.util.List;
import java.util.Map;
import java.util.Random;

/**
 * Runs of calls by chance (with fixed seeds) on the class and on Oracle: each answer, exception and ROW
 * must be the same. Arguments are mostly such that the call is not refused, at times wild.
 */
public final class OracleTest {
    private static final int RUNS = 3000;
    private static final String LETTERS = "wpftykd";
    private static final String LINKS = "|&<>=+-";
    private static final int[] EDGES = {Integer.MIN_VALUE, -1000, -51, -50, -2, -1, 0, 1, 2, 3, 4, 5, 6, 7, 8, 9, 10, 11,
        12, 13, 19, 20, 21, 39, 40, 41, 50, 51, 59, 60, 61, 99, 100, 101, 239, 240, 241, 300, 301, 998, 999, 1000,
        1999, 2000, 70000, Integer.MAX_VALUE};

    private final Random chance;
    private final List<Method> calls = new ArrayList<>();
    private final HallGlass made = new HallGlass();
    private final Oracle due = new Oracle();
    private final StringBuilder told = new StringBuilder();
    private int callCount;

    private OracleTest(long seed) {
        chance = new Random(seed);
        for (Method m : HallGlass.class.getDeclaredMethods()) {
            if (java.lang.reflect.Modifier.isPublic(m.getModifiers())) {
                calls.add(m);
            }
        }
        calls.sort(Comparator.comparing(Method::getName));
    }

    public static void main(String[] args) throws Exception {
        int runs = args.length > 1 ? Integer.parseInt(args[1]) : RUNS;
        for (int seed = 0; seed < runs; seed++) {
            String wrong = new OracleTest(seed).go();
            if (wrong != null) {
                System.out.println("run " + seed + ": " + wrong);
                System.exit(1);
            }
        }
    }

    private String go() throws Exception {
        String wrong = null;
        int days = chance.nextInt(4) == 0 ? 0 : chance.nextInt(chance.nextInt(10) == 0 ? 200 : 40);
        for (int i = 0; i < days && wrong == null && callCount < 400; i++) {
            wrong = chance.nextInt(12) == 0 ? call("run", chance.nextInt(12))
                    : call("day", Math.max(0, chance.nextInt(8) - 4), 450 + chance.nextInt(100), chance.nextInt(3));
        }
        for (int i = 1 + chance.nextInt(6); i > 1 && wrong == null; i--) {
            wrong = call("glass", chance.nextInt(5) * 25, chance.nextInt(41) - 20, chance.nextInt(41));
            for (int j = chance.nextInt(6); j > 0 && wrong == null; j--) {
                wrong = call("mark", made.count(1) - 1, 350 + chance.nextInt(200));
            }
        }
        for (int i = chance.nextInt(6); i > 0 && wrong == null; i--) {
            wrong = tellSign();
        }
        for (int i = 1 + chance.nextInt(5); i > 1 && wrong == null; i--) {
            wrong = call("person", likely("person", 0), likely("person", 1), likely("person", 2));
        }
        for (int i = chance.nextInt(3) * made.count(0); i > 0 && wrong == null && callCount < 400; i--) {
            wrong = chance.nextBoolean() ? call("telling", likely("telling", 0), likely("telling", 1))
                    : call("valley", likely("valley", 0), Math.max(0, chance.nextInt(6) - 2));
        }
        int more = 20 + chance.nextInt(60);
        for (int i = 0; i < more && wrong == null && callCount < 450; i++) {
            wrong = chance.nextInt(12) == 0 ? tellSign() : callByChance();
        }
        return wrong;
    }

    // ---- signs of a text

    private String tellSign() throws Exception {
        StringBuilder b = new StringBuilder();
        if (chance.nextInt(3) != 0) {
            b.append(clause());
            for (int i = chance.nextInt(3); i > 0; i--) {
                b.append(chance.nextBoolean() ? '&' : '|').append(clause());
            }
            return tellText(b, 0);
        }
        b.append(expression(chance.nextInt(4)));
        for (int i = chance.nextInt(3); i > 0; i--) {
            b.append(LINKS.charAt(chance.nextInt(LINKS.length()))).append(expression(chance.nextInt(3)));
        }
        if (chance.nextInt(4) == 0) {
            b.insert(0, "((((((".substring(chance.nextInt(6)));
        }
        for (int i = chance.nextInt(6) - 3; i > 0 && b.length() > 0; i--) {
            String any = "wpftykd0123456789()!-+<>=&| x~";
            b.setCharAt(chance.nextInt(b.length()), any.charAt(chance.nextInt(any.length())));
        }
        if (chance.nextInt(20) == 0) {
            b.setLength(0);
        }
        return tellText(b, 30);
    }

    /** Something that stands on some days and not on others. */
    private String clause() {
        int letter = chance.nextInt(7);
        int[] least = {0, 350, -30, 0, 0, 0, 0};
        int[] many = {5, 200, 60, 4, 4, 3, 40};
        int v = least[letter] + chance.nextInt(many[letter]);
        return LETTERS.substring(letter, letter + 1) + "<>=".charAt(chance.nextInt(3)) + v;
    }

    /** A text signed and read; one in so many is read otherwise than it was meant, 0: none. */
    private String tellText(StringBuilder b, int oneIn) throws Exception {
        String wrong = null;
        for (int i = 0; i < b.length() && wrong == null; i += 4) {
            int v = 0;
            for (int j = i; j < i + 4; j++) {
                v = v << 8 | (j < b.length() ? b.charAt(j) : chance.nextInt(256));
            }
            wrong = call("sign", v);
        }
        if (wrong == null) {
            wrong = call("end", oneIn > 0 && chance.nextInt(oneIn) == 0 ? EDGES[chance.nextInt(EDGES.length)] : Math.min(60, b.length()));
        }
        return wrong != null ? wrong : call("omen", oneIn > 0 && chance.nextInt(oneIn) == 0 ? 4 : chance.nextInt(Math.max(1, made.count(1))));
    }

    private String expression(int deep) {
        if (deep == 0) {
            switch (chance.nextInt(5)) {
                case 0:
                    return Integer.toString(chance.nextInt(4));
                case 1:
                    return Integer.toString(chance.nextInt(1000));
                default:
                    return LETTERS.substring(chance.nextInt(7)).substring(0, 1);
            }
        }
        switch (chance.nextInt(7)) {
            case 0:
                return "!" + expression(deep - 1);
            case 1:
                return "-" + expression(deep - 1);
            case 2:
                return "(" + expression(deep - 1) + ")";
            default:
                return expression(deep - 1) + LINKS.charAt(chance.nextInt(LINKS.length())) + expression(chance.nextInt(deep));
        }
    }

    // ---- calls by chance

    private String callByChance() throws Exception {
        Method m = calls.get(chance.nextInt(calls.size()));
        int n = m.getParameterCount();
        Object[] a = new Object[n];
        for (int i = 0; i < n; i++) {
            if (m.getParameterTypes()[i] == boolean.class) {
                a[i] = chance.nextBoolean();
            } else if (chance.nextInt(40) == 0) {
                a[i] = chance.nextInt(3) == 0 ? chance.nextInt() : EDGES[chance.nextInt(EDGES.length)];
            } else {
                a[i] = likely(m.getName(), i);
            }
        }
        return call(m.getName(), a);
    }

    /** What each argument of a call is: see likely(). */
    private static final Map<String, String> ROLES = Map.ofEntries(
            Map.entry("day", "3a7"), Map.entry("sheet", "3nau3"), Map.entry("run", "r"),
            Map.entry("weight", "339"), Map.entry("step", "3l"), Map.entry("seed", "x"), Map.entry("of", "D2"),
            Map.entry("glass", "hlt"), Map.entry("tap", "G"), Map.entry("mark", "Ga"), Map.entry("shown", "GD3"),
            Map.entry("differ", "GG"), Map.entry("right", "GG"), Map.entry("whose", "GGG"),
            Map.entry("sign", "x"), Map.entry("end", "9"), Map.entry("omen", "G"), Map.entry("value", "SD"),
            Map.entry("table", "SCK"), Map.entry("says", "SCK"), Map.entry("lot", "SCK"),
            Map.entry("fails", "SCK"), Map.entry("beast", "SGC"), Map.entry("holds", "SCK"),
            Map.entry("person", "oyz"), Map.entry("line", "P"), Map.entry("blind", "PCK"),
            Map.entry("saved", "PBCK"), Map.entry("few", "PC9CK"), Map.entry("truly", "PBCK"),
            Map.entry("level", "PG1CK"), Map.entry("remember", "PSMC"), Map.entry("drum", "SCM1"),
            Map.entry("cry", "SCM"), Map.entry("mow", "SH"), Map.entry("fields", "H"), Map.entry("start", "PD"),
            Map.entry("listen", "PL"), Map.entry("village", "PSMC"), Map.entry("first", "PSMC"),
            Map.entry("valley", "D3"), Map.entry("elsewhere", "SCK"), Map.entry("worlds", "PBdKCK"),
            Map.entry("telling", "D%"), Map.entry("judge", "C1"), Map.entry("hedge", "%1"), Map.entry("told", "TC"),
            Map.entry("see", "vv"), Map.entry("sticks", ""), Map.entry("keep", "2"), Map.entry("again", "2"),
            Map.entry("count", "9"), Map.entry("row", "7"));

    private int below(int n) {
        return chance.nextInt(Math.max(1, n));
    }

    /** An argument that the call may well take: a digit stands for 0 up to it, a letter for a sort. */
    private int likely(String name, int i) {
        char role = ROLES.get(name).charAt(i);
        if (role >= '0' && role <= '9') {
            return below(role - '0' + 1);
        }
        switch (role) {
            case 'a': return below(10) == 0 ? below(1400) - 200 : 350 + below(200);
            case 'n': return below(8) - (below(6) == 0 ? 1 : 0);
            case 'u': return below(200) - 100;
            case 'r': return below(12);
            case 'l': return below(101) - 50;
            case 'x': return chance.nextInt();
            case 'h': return below(301);
            case 't': return below(41);
            case 'o': return below(10) == 0 ? below(100) : below(8);
            case 'y': return below(10) == 0 ? below(1000) : 8 + below(20);
            case 'z': return below(10) == 0 ? below(1000) : below(8);
            case 'd': return 1 + below(60);
            case 'v': return 100 + 7 * below(4);
            case '%': return below(101);
            case 'T': return below(11);
            case 'C': return 1 + below(3);
            case 'K': return 1 + below(below(3) == 0 ? 9 : 2);
            case 'M': return 1 + below(below(4) == 0 ? 20 : 4);
            case 'H': return 1 + below(below(2) == 0 ? 6 : 2);
            case 'D': return below(made.count(0) + 1);
            case 'G': return below(made.count(1));
            case 'S': return below(made.count(2));
            case 'P': return below(made.count(3));
            case 'B': return 1 + below((1 << made.count(2)) - 1);
            case 'L': return below(1 << made.count(3));
            default: throw new IllegalStateException(name + i);
        }
    }

    // ---- one call on both

    private String call(String name, Object... a) throws Exception {
        callCount++;
        told.append("\n  ").append(name).append(Arrays.toString(a));
        Object got = answer(made, name, a);
        Object want = answer(due, name, a);
        if (!got.equals(want)) {
            return told + " answered " + got + ", due is " + want;
        }
        for (int what = 0; what <= 8; what++) {
            if (made.count(what) != due.count(what)) {
                return told + " then count(" + what + ") is " + made.count(what) + ", due is " + due.count(what);
            }
        }
        for (int i = 0; i < due.count(6); i++) {
            if (made.row(i) != due.row(i)) {
                return told + " then row(" + i + ") is " + made.row(i) + ", due is " + due.row(i);
            }
        }
        return null;
    }

    private static Object answer(Object it, String name, Object[] a) throws Exception {
        for (Method m : it.getClass().getDeclaredMethods()) {
            if (m.getName().equals(name) && java.lang.reflect.Modifier.isPublic(m.getModifiers())) {
                try {
                    return m.invoke(it, a);
                } catch (InvocationTargetException e) {
                    return e.getCause().getClass();
                }
            }
        }
        throw new IllegalStateException(name);
    }
}
