import java.math.BigInteger;
import java.util.ArrayList;
import java.util.HashMap;
import java.util.List;
import java.util.Map;
import java.util.NoSuchElementException;
import java.util.TreeMap;
import java.util.TreeSet;
import java.util.function.IntPredicate;
import java.util.function.IntUnaryOperator;

/**
 * The document told a second time, slowly and word for word, with the whole Java library: OracleTest
 * holds the class against it. Nothing here is shared with the class.
 */
public final class Oracle {
    private record Day(int weather, int air, int sky) { }

    private static final class Dial {
        int height;
        int lean;
        int stick;
        boolean tapped = true;
        final TreeSet<Integer> marks = new TreeSet<>();
    }

    private interface Node {
        int at(List<Day> all, int d);
    }

    private static final class Wrong extends RuntimeException {
        private static final long serialVersionUID = 1L;
        final int place;

        Wrong(int place) {
            super(null, null, false, false);
            this.place = place;
        }
    }

    private static final class One {
        int cost;
        int loss;
        int still;
        int start;
        int listens;

        long coins(boolean acts, boolean comes) {
            if (acts) {
                return cost + (comes ? still : 0);
            }
            return comes ? loss : 0;
        }
    }

    private record Kept(int days, int r) { }

    private final List<Day> days = new ArrayList<>();
    private final int[][] weights = {{1, 1, 1, 1}, {1, 1, 1, 1}, {1, 1, 1, 1}, {1, 1, 1, 1}};
    private final int[] steps = new int[4];
    private int r = 1;
    private final List<Dial> glasses = new ArrayList<>();
    private final List<Node> signs = new ArrayList<>();
    private final List<One> persons = new ArrayList<>();
    private final List<Character> text = new ArrayList<>();
    private final Map<Integer, Integer> valley = new TreeMap<>();
    private final Map<Integer, Integer> office = new TreeMap<>();
    private final List<int[]> seen = new ArrayList<>();
    private final Map<Integer, Kept> kept = new HashMap<>();
    private List<Long> row = new ArrayList<>();

    private static boolean in(int v, int from, int to) {
        return from <= v && v <= to;
    }

    private void tell(long... numbers) {
        row = new ArrayList<>();
        for (long n : numbers) {
            row.add(n);
        }
    }

    private void tellFirst(List<Integer> all) {
        row = new ArrayList<>();
        for (int i = 0; i < all.size() && i < 20; i++) {
            row.add((long) all.get(i));
        }
    }

    private static long[] lowest(BigInteger up, BigInteger low) {
        BigInteger g = up.gcd(low);
        return new long[] {up.divide(g).longValueExact(), low.divide(g).longValueExact()};
    }

    private static long[] lowest(long up, long low) {
        return lowest(BigInteger.valueOf(up), BigInteger.valueOf(low));
    }

    // ---- days

    public int day(int weather, int air, int sky) {
        if (!in(weather, 0, 3) || !in(air, 0, 999) || !in(sky, 0, 7) || days.size() == 240) {
            return -1;
        }
        days.add(new Day(weather, air, sky));
        return days.size() - 1;
    }

    public int sheet(int kind, int n, int f, int step, int weather) {
        int[] ints = null;
        if (!in(kind, 0, 3) || !in(weather, 0, 3) || n > 40) {
            return -1;
        }
        if (kind == 3) {
            return -3;
        }
        if (n > 240 - days.size()) {
            return -1;
        }
        if (n < 0) {
            return -2;
        }
        ints = new int[n];
        int at = f;
        for (int i = 0; i < n; i++) {
            ints[i] = kind == 0 ? (at << 24) >> 24 : kind == 1 ? (at << 16) >> 16 : at;
            at += step;
        }
        for (int air : ints) {
            days.add(new Day(weather, air < 0 ? 0 : air > 999 ? 999 : air, 0));
        }
        return days.size();
    }

    private int draw(int n) {
        r = r * 1103515245 + 12345;
        return (int) ((r & 0xFFFFFFFFL) / 65536 % n);
    }

    private void make(List<Day> all) {
        int latest = all.isEmpty() ? 0 : all.get(all.size() - 1).weather;
        int air = all.isEmpty() ? 500 : all.get(all.size() - 1).air;
        List<Integer> lots = new ArrayList<>();
        for (int to = 0; to < 4; to++) {
            for (int i = 0; i < weights[latest][to]; i++) {
                lots.add(to);
            }
        }
        int weather = lots.isEmpty() ? latest : lots.get(draw(lots.size()));
        air = air + steps[weather] + (draw(21) - 10);
        air = air < 0 ? 0 : air > 999 ? 999 : air;
        all.add(new Day(weather, air, draw(8)));
    }

    public int run(int n) {
        if (!in(n, 0, 100) || days.size() + n > 240) {
            return -1;
        }
        for (int i = 0; i < n; i++) {
            make(days);
        }
        return days.size();
    }

    public int weight(int from, int to, int v) {
        if (!in(from, 0, 3) || !in(to, 0, 3) || !in(v, 0, 9)) {
            return -1;
        }
        int was = weights[from][to];
        weights[from][to] = v;
        return was;
    }

    public int step(int weather, int v) {
        if (!in(weather, 0, 3) || !in(v, -50, 50)) {
            throw new NoSuchElementException();
        }
        int was = steps[weather];
        steps[weather] = v;
        return was;
    }

    public int seed(int v) {
        int was = r;
        r = v;
        return was;
    }

    public int of(int day, int what) {
        if (!in(day, 0, days.size() - 1) || !in(what, 0, 2)) {
            return -1;
        }
        Day d = days.get(day);
        return new int[] {d.weather, d.air, d.sky}[what];
    }

    // ---- glasses

    private Dial dial(int i) {
        return in(i, 0, glasses.size() - 1) ? glasses.get(i) : null;
    }

    private static int trueOn(List<Day> all, Dial g, int d) {
        return all.get(d).air + g.lean - g.height;
    }

    private static int hand(List<Day> all, Dial g, int d) {
        int from = 0;
        int hand = trueOn(all, g, 0);
        for (int i = from + 1; i <= d; i++) {
            int stood = g.tapped ? trueOn(all, g, i - 1) : hand;
            int is = trueOn(all, g, i);
            int far = is > stood ? is - stood : stood - is;
            hand = far > g.stick ? is : stood;
        }
        return hand;
    }

    private static int reading(List<Day> all, Dial g, int d) {
        return g.tapped ? trueOn(all, g, d) : hand(all, g, d);
    }

    private static int word(List<Day> all, Dial g, int d, int shift) {
        return g.marks.headSet(reading(all, g, d) - shift, true).size();
    }

    private static int fall(List<Day> all, Dial g, int d) {
        return d == 0 ? 0 : reading(all, g, d - 1) - reading(all, g, d);
    }

    public int glass(int height, int lean, int stick) {
        if (!in(height, 0, 300) || !in(lean, -50, 50) || !in(stick, 0, 40) || glasses.size() == 4) {
            return -1;
        }
        Dial g = new Dial();
        g.height = height;
        g.lean = lean;
        g.stick = stick;
        glasses.add(g);
        return glasses.size() - 1;
    }

    public boolean tap(int glass, boolean is) {
        Dial g = dial(glass);
        if (g != null) {
            g.tapped = is;
        }
        return g != null;
    }

    public int mark(int glass, int v) {
        Dial g = dial(glass);
        if (g == null || !in(v, -999, 999) || g.marks.contains(v) || g.marks.size() == 8) {
            return -1;
        }
        g.marks.add(v);
        return g.marks.size();
    }

    public int shown(int glass, int day, int what) {
        Dial g = dial(glass);
        if (g == null || !in(day, 0, days.size() - 1) || !in(what, 0, 3)) {
            throw new NoSuchElementException();
        }
        switch (what) {
            case 0: return trueOn(days, g, day);
            case 1: return hand(days, g, day);
            case 2: return reading(days, g, day);
            default: return word(days, g, day, 0);
        }
    }

    public int differ(int one, int other) {
        Dial a = dial(one);
        Dial b = dial(other);
        if (a == null || b == null) {
            return -1;
        }
        List<Integer> unlike = new ArrayList<>();
        for (int d = 0; d < days.size(); d++) {
            if (word(days, a, d, 0) != word(days, b, d, 0)) {
                unlike.add(d);
            }
        }
        tellFirst(unlike);
        return unlike.size();
    }

    public int right(int one, int other) {
        Dial a = dial(one);
        Dial b = dial(other);
        if (a == null || b == null) {
            return -1;
        }
        List<Integer> shifts = new ArrayList<>();
        shifts.add(0);
        for (int s = 1; s <= 60; s++) {
            shifts.add(-s);
            shifts.add(s);
        }
        int most = -1;
        for (int s : shifts) {
            int alike = 0;
            for (int d = 0; d < days.size(); d++) {
                alike += word(days, a, d, s) == word(days, b, d, 0) ? 1 : 0;
            }
            if (alike > most) {
                most = alike;
                tell(s);
            }
        }
        return most;
    }

    public int whose(int a, int b, int c) {
        if (dial(a) == null || dial(b) == null || dial(c) == null) {
            return -1;
        }
        if (a == b || b == c || a == c) {
            return -1;
        }
        int[] three = {a, b, c};
        int[] alone = new int[3];
        for (int d = 0; d < days.size(); d++) {
            for (int i = 0; i < 3; i++) {
                int it = word(days, dial(three[i]), d, 0);
                int p = word(days, dial(three[(i + 1) % 3]), d, 0);
                int q = word(days, dial(three[(i + 2) % 3]), d, 0);
                alone[i] += p == q && it != p ? 1 : 0;
            }
        }
        int best = 0;
        for (int i = 1; i < 3; i++) {
            best = alone[i] > alone[best] ? i : best;
        }
        if (alone[best] == 0) {
            return -2;
        }
        tell(alone[best]);
        return three[best];
    }

    // ---- signs

    public int sign(int v) {
        if (text.size() > 56) {
            return -1;
        }
        for (int i = 3; i >= 0; i--) {
            text.add((char) ((v >> (8 * i)) & 0xFF));
        }
        return text.size();
    }

    public boolean end(int n) {
        if (n < 0 || n > text.size()) {
            return false;
        }
        while (text.size() > n) {
            text.remove(text.size() - 1);
        }
        return true;
    }

    /** Reads by descent; the sign that no rule can take is the wrong one. */
    private static final class Reader {
        final String s;
        final Dial g;
        int p;
        int open;

        Reader(String s, Dial g) {
            this.s = s;
            this.g = g;
        }

        char now() {
            return p < s.length() ? s.charAt(p) : 0;
        }

        boolean at(char c) {
            return p < s.length() && s.charAt(p) == c;
        }

        Node whole() {
            Node n = or();
            if (p < s.length()) {
                throw new Wrong(p);
            }
            return n;
        }

        Node or() {
            Node left = and();
            while (at('|')) {
                p++;
                Node l = left;
                Node rt = and();
                left = (all, d) -> l.at(all, d) != 0 | rt.at(all, d) != 0 ? 1 : 0;
            }
            return left;
        }

        Node and() {
            Node left = compare();
            while (at('&')) {
                p++;
                Node l = left;
                Node rt = compare();
                left = (all, d) -> l.at(all, d) != 0 & rt.at(all, d) != 0 ? 1 : 0;
            }
            return left;
        }

        Node compare() {
            Node l = sum();
            if (!at('<') && !at('>') && !at('=')) {
                return l;
            }
            char how = now();
            p++;
            Node rt = sum();
            return (all, d) -> {
                int x = Integer.compare(l.at(all, d), rt.at(all, d));
                return how == '<' && x < 0 || how == '>' && x > 0 || how == '=' && x == 0 ? 1 : 0;
            };
        }

        Node sum() {
            Node left = single();
            while (at('+') || at('-')) {
                int by = at('+') ? 1 : -1;
                p++;
                Node l = left;
                Node rt = single();
                left = (all, d) -> l.at(all, d) + by * rt.at(all, d);
            }
            return left;
        }

        Node single() {
            if (at('!')) {
                p++;
                Node n = single();
                return (all, d) -> n.at(all, d) == 0 ? 1 : 0;
            }
            if (at('-')) {
                p++;
                Node n = single();
                return (all, d) -> -n.at(all, d);
            }
            return thing();
        }

        Node thing() {
            if (p >= s.length()) {
                throw new Wrong(p);
            }
            char c = now();
            if (at('(') && open < 5) {
                p++;
                open++;
                Node n = or();
                if (!at(')')) {
                    throw new Wrong(p);
                }
                p++;
                open--;
                return n;
            }
            if (Character.toString(c).matches("[0-9]")) {
                int from = p;
                while (p - from < 3 && Character.toString(now()).matches("[0-9]")) {
                    p++;
                }
                int v = Integer.parseInt(s.substring(from, p));
                return (all, d) -> v;
            }
            Node letter = letter(c);
            if (letter == null) {
                throw new Wrong(p);
            }
            p++;
            return letter;
        }

        Node letter(char c) {
            switch (c) {
                case 'w': return (all, d) -> word(all, g, d, 0);
                case 'p': return (all, d) -> reading(all, g, d);
                case 'f': return (all, d) -> fall(all, g, d);
                case 't': return (all, d) -> all.get(d).weather;
                case 'y': return (all, d) -> all.get(Math.max(0, d - 1)).weather;
                case 'k': return (all, d) -> all.get(d).sky;
                case 'd': return (all, d) -> d;
                default: return null;
            }
        }
    }

    public int omen(int glass) {
        StringBuilder b = new StringBuilder();
        for (char c : text) {
            b.append(c);
        }
        text.clear();
        Dial g = dial(glass);
        if (g == null || signs.size() == 10) {
            return -100;
        }
        try {
            if (b.length() > 40) {
                try {
                    new Reader(b.substring(0, 40), g).whole();
                } catch (Wrong w) {
                    throw new Wrong(w.place);
                }
                throw new Wrong(40);
            }
            signs.add(new Reader(b.toString(), g).whole());
        } catch (Wrong w) {
            return -1 - w.place;
        }
        return signs.size() - 1;
    }

    public int value(int sign, int day) {
        if (!in(sign, 0, signs.size() - 1) || !in(day, 0, days.size() - 1)) {
            throw new NoSuchElementException();
        }
        return signs.get(sign).at(days, day);
    }

    private boolean stands(int sign, int d) {
        return signs.get(sign).at(days, d) != 0;
    }

    private static boolean comes(List<Day> all, int d, int c, int k) {
        return all.subList(d + 1, d + 1 + k).stream().anyMatch(x -> x.weather >= c);
    }

    private boolean bad(int sign, int c, int k) {
        return !in(sign, 0, signs.size() - 1) || !in(c, 1, 3) || !in(k, 1, 9);
    }

    private static int known(List<Day> all, int k) {
        return all.size() > k ? all.size() - k : 0;
    }

    private long[] counts(int from, int to, IntPredicate s, IntPredicate e, IntPredicate which) {
        long[] four = new long[4];
        for (int d = from; d < to; d++) {
            if (which.test(d)) {
                four[(s.test(d) ? 0 : 2) + (e.test(d) ? 0 : 1)]++;
            }
        }
        return four;
    }

    private long[] counts(int sign, int c, int k) {
        return counts(0, known(days, k), d -> stands(sign, d), d -> comes(days, d, c, k), d -> true);
    }

    private static int verdict(long[] t) {
        long s = t[0] + t[1];
        long all = s + t[2] + t[3];
        if (s == 0) {
            return -2;
        }
        int x = Long.compare(t[0] * all, (t[0] + t[2]) * s);
        return x > 0 ? 1 : x < 0 ? 2 : 0;
    }

    public int table(int sign, int c, int k) {
        if (bad(sign, c, k)) {
            return -1;
        }
        long[] t = counts(sign, c, k);
        tell(t);
        return (int) t[0];
    }

    public int says(int sign, int c, int k) {
        if (bad(sign, c, k)) {
            return -1;
        }
        long[] t = counts(sign, c, k);
        int v = verdict(t);
        if (v != -2) {
            long[] a = lowest(t[0], t[0] + t[1]);
            long[] b = lowest(t[0] + t[2], known(days, k));
            tell(a[0], a[1], b[0], b[1]);
        }
        return v;
    }

    private static BigInteger factorial(long n) {
        return n < 2 ? BigInteger.ONE : factorial(n - 1).multiply(BigInteger.valueOf(n));
    }

    private static BigInteger choose(long n, long k) {
        if (k < 0 || k > n) {
            return BigInteger.ZERO;
        }
        return factorial(n).divide(factorial(k)).divide(factorial(n - k));
    }

    public int lot(int sign, int c, int k) {
        if (bad(sign, c, k) || known(days, k) == 0) {
            return -1;
        }
        int all = known(days, k);
        if (all > 60) {
            return -3;
        }
        long[] t = counts(sign, c, k);
        long s = t[0] + t[1];
        long e = t[0] + t[2];
        BigInteger ways = BigInteger.ZERO;
        for (long j = t[0]; j <= all; j++) {
            ways = ways.add(choose(e, j).multiply(choose(all - e, s - j)));
        }
        tell(lowest(ways, choose(all, s)));
        return 0;
    }

    public int fails(int sign, int c, int k) {
        if (bad(sign, c, k)) {
            return -1;
        }
        List<Integer> bad = new ArrayList<>();
        for (int d = 0; d < known(days, k); d++) {
            if (stands(sign, d) && !comes(days, d, c, k)) {
                bad.add(d);
            }
        }
        tellFirst(bad);
        return bad.size();
    }

    public int beast(int sign, int glass, int c) {
        Dial g = dial(glass);
        if (g == null || bad(sign, c, 1)) {
            return -1;
        }
        int bits = 0;
        for (int w = 0; w <= 8; w++) {
            int it = w;
            long[] t = counts(0, known(days, 1), d -> stands(sign, d), d -> comes(days, d, c, 1),
                    d -> word(days, g, d, 0) == it);
            if (t[0] * (t[0] + t[1] + t[2] + t[3]) != (t[0] + t[1]) * (t[0] + t[2])) {
                bits += 1 << w;
            }
        }
        return bits;
    }

    public int holds(int sign, int c, int k) {
        if (bad(sign, c, k)) {
            return -1;
        }
        int all = known(days, k);
        int bits = 0;
        for (int q = 0; q < 4; q++) {
            long[] t = counts(q * all / 4, (q + 1) * all / 4, d -> stands(sign, d), d -> comes(days, d, c, k), d -> true);
            bits += verdict(t) == 1 ? 1 << q : 0;
        }
        return bits;
    }

    // ---- coins

    public int person(int cost, int loss, int still) {
        if (!in(cost, 0, 99) || !in(loss, 0, 999) || !in(still, 0, 999) || persons.size() == 6) {
            return -1;
        }
        One o = new One();
        o.cost = cost;
        o.loss = loss;
        o.still = still;
        persons.add(o);
        return persons.size() - 1;
    }

    private One one(int i) {
        return in(i, 0, persons.size() - 1) ? persons.get(i) : null;
    }

    public int line(int person) {
        One o = one(person);
        if (o == null) {
            return -1;
        }
        if (o.loss <= o.still) {
            return -2;
        }
        tell(lowest(o.cost, o.loss - o.still));
        return 0;
    }

    private static long coins(List<Day> all, One o, int from, int to, int c, int k, IntPredicate acts) {
        long sum = 0;
        for (int d = from; d < to; d++) {
            sum += o.coins(acts.test(d), comes(all, d, c, k));
        }
        return sum;
    }

    private static boolean blindActs(List<Day> all, One o, int to, int c, int k) {
        return coins(all, o, 0, to, c, k, d -> true) < coins(all, o, 0, to, c, k, d -> false);
    }

    private static long blindCoins(List<Day> all, One o, int c, int k) {
        boolean acts = blindActs(all, o, known(all, k), c, k);
        return coins(all, o, 0, known(all, k), c, k, d -> acts);
    }

    public int blind(int person, int c, int k) {
        One o = one(person);
        if (o == null || !in(c, 1, 3) || !in(k, 1, 9)) {
            return -1;
        }
        tell(blindActs(days, o, known(days, k), c, k) ? 1 : 0);
        return (int) blindCoins(days, o, c, k);
    }

    private List<Integer> standing(List<Day> all, int bits, int d) {
        List<Integer> set = new ArrayList<>();
        for (int i = 0; i < signs.size(); i++) {
            if ((bits & 1 << i) != 0 && signs.get(i).at(all, d) != 0) {
                set.add(i);
            }
        }
        return set;
    }

    /** By sets: what acting, and not, costs over the days from 0 up to one. */
    private Map<List<Integer>, long[]> learn(List<Day> all, One o, int bits, int to, int c, int k) {
        Map<List<Integer>, long[]> by = new HashMap<>();
        for (int d = 0; d < to; d++) {
            long[] both = by.computeIfAbsent(standing(all, bits, d), x -> new long[2]);
            both[0] += o.coins(true, comes(all, d, c, k));
            both[1] += o.coins(false, comes(all, d, c, k));
        }
        return by;
    }

    private long[] bySigns(List<Day> all, One o, int bits, int c, int k) {
        Map<List<Integer>, long[]> by = learn(all, o, bits, known(all, k), c, k);
        long sum = 0;
        for (long[] both : by.values()) {
            sum += Math.min(both[0], both[1]);
        }
        return new long[] {sum, by.size()};
    }

    private boolean areSigns(int bits) {
        return bits > 0 && bits < 1 << signs.size();
    }

    public int saved(int person, int bits, int c, int k) {
        One o = one(person);
        if (o == null || !areSigns(bits) || !in(c, 1, 3) || !in(k, 1, 9)) {
            return -1;
        }
        long[] s = bySigns(days, o, bits, c, k);
        tell(s);
        return (int) (blindCoins(days, o, c, k) - s[0]);
    }

    public int few(int person, int m, int price, int c, int k) {
        One o = one(person);
        if (o == null || !in(m, 1, 3) || !in(price, 0, 999) || !in(c, 1, 3) || !in(k, 1, 9) || signs.isEmpty()) {
            return -1;
        }
        long best = Long.MIN_VALUE;
        for (int size = 1; size <= m; size++) {
            for (int bits = 1; bits < 1 << signs.size(); bits++) {
                if (Integer.toBinaryString(bits).replace("0", "").length() != size) {
                    continue;
                }
                long worth = blindCoins(days, o, c, k) - bySigns(days, o, bits, c, k)[0] - (long) size * price;
                if (worth > best) {
                    best = worth;
                    tell(bits);
                }
            }
        }
        return (int) best;
    }

    public int truly(int person, int bits, int c, int k) {
        One o = one(person);
        if (o == null || !areSigns(bits) || !in(c, 1, 3) || !in(k, 1, 9)) {
            throw new NoSuchElementException();
        }
        int all = known(days, k);
        int half = all / 2;
        boolean blind = blindActs(days, o, half, c, k);
        Map<List<Integer>, long[]> by = learn(days, o, bits, half, c, k);
        long a = coins(days, o, half, all, c, k, d -> blind);
        long b = coins(days, o, half, all, c, k, d -> {
            long[] both = by.get(standing(days, bits, d));
            return both == null ? blind : both[0] < both[1];
        });
        tell(a, b);
        return (int) (a - b);
    }

    public int level(int person, int glass, int what, int c, int k) {
        One o = one(person);
        Dial g = dial(glass);
        if (o == null || g == null || !in(what, 0, 1) || !in(c, 1, 3) || !in(k, 1, 9)) {
            return -1;
        }
        int all = known(days, k);
        IntUnaryOperator of = d -> what == 0 ? reading(days, g, d) : fall(days, g, d);
        TreeSet<Integer> values = new TreeSet<>();
        for (int d = 0; d < all; d++) {
            values.add(of.applyAsInt(d));
        }
        long least = coins(days, o, 0, all, c, k, d -> false);
        int best = 9999;
        for (int v : values) {
            long it = coins(days, o, 0, all, c, k, d -> what == 0 ? of.applyAsInt(d) <= v : of.applyAsInt(d) >= v);
            if (it < least) {
                least = it;
                best = v;
            }
        }
        tell(best, least);
        return (int) (blindCoins(days, o, c, k) - least);
    }

    // ---- memory, drums, village

    /** The latest m of the days from..d-1 on which the sign stood: how many, and how many with the event. */
    private int[] latest(int sign, int from, int d, int m, int c) {
        int[] both = new int[2];
        for (int i = d - 1; i >= from && both[0] < m; i--) {
            if (stands(sign, i)) {
                both[0]++;
                both[1] += comes(days, i, c, 1) ? 1 : 0;
            }
        }
        return both;
    }

    private int live(One o, int sign, int m, int c, List<Integer> starts, boolean tells) {
        long sum = 0;
        int acted = 0;
        int vain = 0;
        int without = 0;
        int first = -2;
        for (int d = 0; d < known(days, 1); d++) {
            int times = 0;
            int events = 0;
            for (int from : starts) {
                int[] both = latest(sign, from, d, m, c);
                times += both[0];
                events += both[1];
            }
            boolean acts = stands(sign, d) && times > 0 && events * (o.loss - o.still) > o.cost * times;
            boolean comes = comes(days, d, c, 1);
            sum += o.coins(acts, comes);
            acted += acts ? 1 : 0;
            vain += acts && !comes ? 1 : 0;
            without += comes && !acts ? 1 : 0;
            first = acts && first == -2 ? d : first;
        }
        if (!tells) {
            return first;
        }
        tell(acted, vain, without);
        return (int) sum;
    }

    public int remember(int person, int sign, int m, int c) {
        if (one(person) == null || bad(sign, c, 1) || !in(m, 1, 20)) {
            return -1;
        }
        return live(one(person), sign, m, c, List.of(0), true);
    }

    /** The first DAY on which the drum is not HEEDED, or -2; row or not. */
    private int drumAt(int sign, int c, int m, int q, boolean tells) {
        int hoisted = 0;
        int vain = 0;
        int missed = 0;
        int first = -2;
        for (int d = 0; d < known(days, 1); d++) {
            if (!stands(sign, d)) {
                continue;
            }
            boolean heeded = hoisted < m || latest(sign, 0, d, m, c)[1] >= q;
            boolean comes = comes(days, d, c, 1);
            hoisted++;
            vain += comes ? 0 : 1;
            missed += comes && !heeded ? 1 : 0;
            first = !heeded && first == -2 ? d : first;
        }
        if (tells) {
            tell(hoisted, vain, missed);
        }
        return first;
    }

    public int drum(int sign, int c, int m, int q) {
        if (bad(sign, c, 1) || !in(m, 1, 20) || !in(q, 0, m)) {
            return -1;
        }
        return drumAt(sign, c, m, q, true);
    }

    public int cry(int sign, int c, int m) {
        if (bad(sign, c, 1) || !in(m, 1, 20)) {
            return -1;
        }
        int q = m;
        while (drumAt(sign, c, m, q, false) != -2) {
            q--;
        }
        return q;
    }

    public int mow(int sign, int h) {
        if (!in(sign, 0, signs.size() - 1) || !in(h, 1, 6)) {
            return -1;
        }
        int in = 0;
        int spoilt = 0;
        int idle = 0;
        int d = 0;
        while (d + h <= days.size() - 1) {
            if (!stands(sign, d)) {
                idle++;
                d++;
                continue;
            }
            int to = d + h;
            boolean dry = true;
            for (int i = d + 1; i <= to && dry; i++) {
                if (days.get(i).weather != 0) {
                    dry = false;
                    to = i;
                }
            }
            in += dry ? 1 : 0;
            spoilt += dry ? 0 : 1;
            d = to + 1;
        }
        tell(spoilt, idle);
        return in;
    }

    /** The most fields from each DAY on, found from the end; then the earliest cuttings of that many. */
    public int fields(int h) {
        if (!in(h, 1, 6)) {
            return -1;
        }
        int n = days.size();
        int[] most = new int[n + 10];
        for (int d = n - 1; d >= 0; d--) {
            most[d] = Math.max(most[d + 1], dry(d, h) ? 1 + most[d + h + 1] : 0);
        }
        List<Integer> cuts = new ArrayList<>();
        int left = most[0];
        int from = 0;
        while (left > 0) {
            int d = from;
            while (!(dry(d, h) && 1 + most[d + h + 1] == left)) {
                d++;
            }
            cuts.add(d);
            left--;
            from = d + h + 1;
        }
        tellFirst(cuts);
        return cuts.size();
    }

    private boolean dry(int d, int h) {
        return d + h < days.size() && !comes(days, d, 1, h);
    }

    public int start(int person, int day) {
        if (one(person) == null || !in(day, 0, 239)) {
            return -1;
        }
        int was = one(person).start;
        one(person).start = day;
        return was;
    }

    public int listen(int person, int bits) {
        if (one(person) == null || bits < 0 || bits >= 1 << persons.size() || (bits & 1 << person) != 0) {
            return -1;
        }
        int was = one(person).listens;
        one(person).listens = bits;
        return was;
    }

    private List<Integer> starts(int person) {
        List<Integer> starts = new ArrayList<>();
        starts.add(one(person).start);
        for (int i = 0; i < persons.size(); i++) {
            if ((one(person).listens & 1 << i) != 0) {
                starts.add(one(i).start);
            }
        }
        return starts;
    }

    public int village(int person, int sign, int m, int c) {
        if (one(person) == null || bad(sign, c, 1) || !in(m, 1, 20)) {
            return -1;
        }
        return live(one(person), sign, m, c, starts(person), true);
    }

    public int first(int person, int sign, int m, int c) {
        if (one(person) == null || bad(sign, c, 1) || !in(m, 1, 20)) {
            return -1;
        }
        return live(one(person), sign, m, c, starts(person), false);
    }

    // ---- another valley, worlds

    public int valley(int day, int weather) {
        if (!in(day, 0, 239) || !in(weather, 0, 3)) {
            return -1;
        }
        valley.put(day, weather);
        return valley.size();
    }

    public int elsewhere(int sign, int c, int k) {
        if (bad(sign, c, k)) {
            return -1;
        }
        IntPredicate told = d -> {
            for (int i = d + 1; i <= d + k; i++) {
                if (!valley.containsKey(i)) {
                    return false;
                }
            }
            return true;
        };
        IntPredicate came = d -> {
            for (int i = d + 1; i <= d + k; i++) {
                if (valley.get(i) >= c) {
                    return true;
                }
            }
            return false;
        };
        long[] t = counts(0, known(days, k), d -> stands(sign, d), came, told);
        tell(t[0], t[1], t[2], t[3], verdict(t), t[0] + t[1] + t[2] + t[3]);
        return (int) t[0];
    }

    public int worlds(int person, int bits, int many, int n, int c, int k) {
        One o = one(person);
        if (o == null || !areSigns(bits) || !in(many, 1, 60) || !in(n, 1, 12) || !in(c, 1, 3) || !in(k, 1, 9)) {
            return -1;
        }
        int was = r;
        int above = 0;
        long sum = 0;
        long greatest = Long.MIN_VALUE;
        for (int i = 0; i < n; i++) {
            List<Day> all = new ArrayList<>();
            for (int d = 0; d < many; d++) {
                make(all);
            }
            long it = blindCoins(all, o, c, k) - bySigns(all, o, bits, c, k)[0];
            above += it > 0 ? 1 : 0;
            sum += it;
            greatest = Math.max(greatest, it);
        }
        r = was;
        tell(sum, greatest);
        return above;
    }

    // ---- tellings

    public int telling(int day, int percent) {
        if (!in(day, 0, 239) || !in(percent, 0, 100)) {
            return -1;
        }
        office.put(day, percent);
        return office.size();
    }

    private static long far(int told, boolean comes, int measure) {
        long far = comes ? 100 - told : told;
        return measure == 0 ? far * far : far;
    }

    public int judge(int c, int measure) {
        if (!in(c, 1, 3) || !in(measure, 0, 1)) {
            return -1;
        }
        long sum = 0;
        long[] same = new long[101];
        int many = 0;
        for (int d = 0; d < known(days, 1); d++) {
            if (office.containsKey(d)) {
                many++;
                boolean comes = comes(days, d, c, 1);
                sum += far(office.get(d), comes, measure);
                for (int p = 0; p <= 100; p++) {
                    same[p] += far(p, comes, measure);
                }
            }
        }
        if (many == 0) {
            return -2;
        }
        int best = 0;
        for (int p = 1; p <= 100; p++) {
            best = same[p] < same[best] ? p : best;
        }
        tell(sum, same[best], best);
        return 0;
    }

    public int hedge(int p, int measure) {
        if (!in(p, 0, 100) || !in(measure, 0, 1)) {
            return -1;
        }
        long[] sums = new long[101];
        int best = 0;
        for (int x = 0; x <= 100; x++) {
            sums[x] = p * far(x, true, measure) + (100 - p) * far(x, false, measure);
            best = sums[x] < sums[best] ? x : best;
        }
        tell(sums[best], sums[p]);
        return best;
    }

    public int told(int i, int c) {
        if (!in(i, 0, 10) || !in(c, 1, 3)) {
            return -1;
        }
        int many = 0;
        int came = 0;
        for (Map.Entry<Integer, Integer> e : office.entrySet()) {
            if (e.getKey() < known(days, 1) && in(e.getValue(), 10 * i, 10 * i + 9)) {
                many++;
                came += comes(days, e.getKey(), c, 1) ? 1 : 0;
            }
        }
        tell(came);
        return many;
    }

    // ---- glasses that stick, kept

    public int see(int ahead, int behind) {
        if (!in(ahead, -999, 1999) || !in(behind, -999, 1999) || seen.size() == 20) {
            return -1;
        }
        seen.add(new int[] {ahead, behind});
        return seen.size();
    }

    public int sticks() {
        List<Integer> fit = new ArrayList<>();
        for (int s = 0; s <= 40; s++) {
            boolean all = true;
            for (int i = 1; i < seen.size(); i++) {
                int stood = seen.get(i - 1)[1];
                int is = seen.get(i)[1];
                int hand = is - stood > s || stood - is > s ? is : stood;
                all &= seen.get(i)[0] == hand;
            }
            if (all) {
                fit.add(s);
            }
        }
        if (!fit.isEmpty()) {
            tell(fit.get(0), fit.get(fit.size() - 1));
        }
        return fit.size();
    }

    public boolean keep(int i) {
        if (in(i, 0, 2)) {
            kept.put(i, new Kept(days.size(), r));
        }
        return in(i, 0, 2);
    }

    public boolean again(int i) {
        Kept it = kept.get(i);
        if (it == null || days.size() < it.days) {
            return false;
        }
        while (days.size() > it.days) {
            days.remove(days.size() - 1);
        }
        r = it.r;
        return true;
    }

    public int count(int what) {
        int[] all = {days.size(), glasses.size(), signs.size(), persons.size(), office.size(), seen.size(),
            row.size(), text.size(), valley.size()};
        return in(what, 0, 8) ? all[what] : -1;
    }

    public long row(int i) {
        if (!in(i, 0, row.size() - 1)) {
            throw new NoSuchElementException();
        }
        return row.get(i);
    }
}
