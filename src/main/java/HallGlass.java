import java.util.NoSuchElementException;

/**
 * A glass in the hall: days of weather and air, glasses that hang high, lean and stick, signs told
 * of them, and what such signs are worth to those who go by them.
 */
public final class HallGlass {
    public static final int NONE = -1;

    private static final int MOST_DAYS = 240;
    private static final int MOST_AIR = 999;
    private static final int MOST_WEATHER = 3;
    private static final int MOST_SKY = 7;
    private static final int MOST_GLASSES = 4;
    private static final int MOST_MARKS = 8;
    private static final int MOST_SIGNS = 10;
    private static final int MOST_PERSONS = 6;
    private static final int MOST_SEEN = 20;
    private static final int MOST_STICK = 40;
    private static final int MOST_SHIFT = 60;
    private static final int MOST_TIMES = 20;
    private static final int MOST_LOT = 60;
    private static final int MISSING_SHEET = 3;
    private static final int NEVER = 9999;

    private final Chances chances;
    private final Days days;
    private final Days world;
    private final Glass[] glasses;
    private int glassCount;
    private final Text text;
    private final Omen[] signs;
    private int signCount;
    private final Person[] persons;
    private int personCount;
    private final Told valley;
    private final Told office;
    private final int[] seenAhead;
    private final int[] seenBehind;
    private int seenCount;
    private final Survey survey;
    private final Tally tally;
    private final Watch watch;
    private final Row row;

    public HallGlass() {
        chances = new Chances();
        days = new Days();
        world = new Days();
        glasses = new Glass[MOST_GLASSES];
        text = new Text();
        signs = new Omen[MOST_SIGNS];
        persons = new Person[MOST_PERSONS];
        valley = new Told();
        office = new Told();
        seenAhead = new int[MOST_SEEN];
        seenBehind = new int[MOST_SEEN];
        survey = new Survey();
        tally = new Tally();
        watch = new Watch();
        row = new Row();
    }

    // ---- days

    public int day(int weather, int air, int sky) {
        if (!isWeather(weather) || !within(air, 0, MOST_AIR) || !within(sky, 0, MOST_SKY)) {
            return NONE;
        }
        if (days.size() >= MOST_DAYS) {
            return NONE;
        }
        days.add(weather, air, sky);
        return days.size() - 1;
    }

    public int sheet(int kind, int n, int f, int step, int weather) {
        if (!within(kind, 0, MISSING_SHEET) || !isWeather(weather) || n > 40) {
            return NONE;
        }
        if (kind != MISSING_SHEET && days.size() + n > MOST_DAYS) {
            return NONE;
        }
        if (kind == MISSING_SHEET) {
            return -3;
        }
        if (n < 0) {
            return -2;
        }
        for (int i = 0; i < n; i++) {
            days.add(weather, clampAir(sheetEntry(kind, f + i * step)), 0);
        }
        return days.size();
    }

    public int run(int n) {
        if (!within(n, 0, 100) || days.size() + n > MOST_DAYS) {
            return NONE;
        }
        for (int i = 0; i < n; i++) {
            chances.makeDay(days);
        }
        return days.size();
    }

    public int weight(int from, int to, int v) {
        if (!isWeather(from) || !isWeather(to) || !within(v, 0, 9)) {
            return NONE;
        }
        return chances.setWeight(from, to, v);
    }

    public int step(int weather, int v) throws NoSuchElementException {
        if (!isWeather(weather) || !within(v, -50, 50)) {
            throw new NoSuchElementException("no such step");
        }
        return chances.setStep(weather, v);
    }

    public int seed(int v) {
        int before = chances.drawn();
        chances.goOnFrom(v);
        return before;
    }

    public int of(int day, int what) {
        if (!days.has(day) || !within(what, 0, 2)) {
            return NONE;
        }
        if (what == 0) {
            return days.weatherOn(day);
        }
        return what == 1 ? days.airOn(day) : days.skyOn(day);
    }

    // ---- glasses

    public int glass(int height, int lean, int stick) {
        if (!within(height, 0, 300) || !within(lean, -50, 50) || !within(stick, 0, MOST_STICK)) {
            return NONE;
        }
        if (glassCount >= MOST_GLASSES) {
            return NONE;
        }
        glasses[glassCount] = new Glass(height, lean, stick);
        glassCount++;
        return glassCount - 1;
    }

    public boolean tap(int glass, boolean is) {
        Glass dial = glassAt(glass);
        if (dial == null) {
            return false;
        }
        dial.setTapped(is);
        return true;
    }

    public int mark(int glass, int v) {
        Glass dial = glassAt(glass);
        if (dial == null || !within(v, -999, 999)) {
            return NONE;
        }
        return dial.addMark(v) ? dial.markCount() : NONE;
    }

    public int shown(int glass, int day, int what) throws NoSuchElementException {
        Glass dial = glassAt(glass);
        if (dial == null || !days.has(day) || !within(what, 0, 3)) {
            throw new NoSuchElementException("no such glass, day or reading");
        }
        dial.look(days);
        if (what == 0) {
            return dial.trueOn(days, day);
        }
        if (what == 1) {
            return dial.handOn(day);
        }
        return what == 2 ? dial.readingOn(day) : dial.wordOn(day, 0);
    }

    public int differ(int one, int other) {
        Glass a = glassAt(one);
        Glass b = glassAt(other);
        if (a == null || b == null) {
            return NONE;
        }
        lookAtGlasses(days);
        row.clear();
        int unlike = 0;
        for (int d = 0; d < days.size(); d++) {
            if (a.wordOn(d, 0) != b.wordOn(d, 0)) {
                row.add(d);
                unlike++;
            }
        }
        return unlike;
    }

    public int right(int one, int other) {
        Glass a = glassAt(one);
        Glass b = glassAt(other);
        if (a == null || b == null) {
            return NONE;
        }
        lookAtGlasses(days);
        int most = -1;
        int best = 0;
        for (int shift = -MOST_SHIFT; shift <= MOST_SHIFT; shift++) {
            int alike = daysAlike(a, shift, b);
            // the lesser of two shifts of one size comes first and stays
            if (alike > most || alike == most && Math.abs(shift) < Math.abs(best)) {
                most = alike;
                best = shift;
            }
        }
        row.clear();
        row.add(best);
        return most;
    }

    public int whose(int a, int b, int c) {
        Glass one = glassAt(a);
        Glass two = glassAt(b);
        Glass three = glassAt(c);
        if (one == null || two == null || three == null || a == b || a == c || b == c) {
            return NONE;
        }
        lookAtGlasses(days);
        int ofA = daysAlone(one, two, three);
        int ofB = daysAlone(two, one, three);
        int ofC = daysAlone(three, one, two);
        int most = Math.max(ofA, Math.max(ofB, ofC));
        if (most == 0) {
            return -2;
        }
        row.clear();
        row.add(most);
        if (ofA == most) {
            return a;
        }
        return ofB == most ? b : c;
    }

    // ---- signs

    public int sign(int v) {
        return text.append(v) ? text.size() : NONE;
    }

    public boolean end(int n) {
        return text.cut(n);
    }

    public int omen(int glass) {
        Glass dial = glassAt(glass);
        if (dial == null || signCount >= MOST_SIGNS) {
            text.cut(0);
            return -100;
        }
        int wrong = text.wrongPlace();
        text.cut(0);
        if (wrong >= 0) {
            return -1 - wrong;
        }
        signs[signCount] = new Omen(dial, text.codeRead());
        signCount++;
        return signCount - 1;
    }

    public int value(int sign, int day) throws NoSuchElementException {
        Omen it = signAt(sign);
        if (it == null || !days.has(day)) {
            throw new NoSuchElementException("no such sign or day");
        }
        lookAtGlasses(days);
        return it.valueOn(days, day);
    }

    public int table(int sign, int c, int k) {
        if (!canTally(sign, c, k)) {
            return NONE;
        }
        tallySign(sign, c, k);
        row.clear();
        addTable();
        return tally.both();
    }

    public int says(int sign, int c, int k) {
        if (!canTally(sign, c, k)) {
            return NONE;
        }
        tallySign(sign, c, k);
        if (tally.stands() == 0) {
            return -2;
        }
        row.clear();
        row.addFraction(tally.both(), tally.stands());
        row.addFraction(tally.events(), tally.all());
        return tally.verdict();
    }

    public int lot(int sign, int c, int k) {
        if (!canTally(sign, c, k) || days.known(k) == 0) {
            return NONE;
        }
        if (days.known(k) > MOST_LOT) {
            return -3;
        }
        tallySign(sign, c, k);
        int stands = tally.stands();
        int events = tally.events();
        int all = tally.all();
        long ways = 0;
        for (int i = tally.both(); i <= stands; i++) {
            ways += choices(events, i) * choices(all - events, stands - i);
        }
        row.clear();
        row.addFraction(ways, choices(all, stands));
        return 0;
    }

    public int fails(int sign, int c, int k) {
        if (!canTally(sign, c, k)) {
            return NONE;
        }
        lookOver(days, 1 << sign, c, k);
        row.clear();
        int failed = 0;
        for (int d = 0; d < survey.size(); d++) {
            if (survey.stoodOn(d) && !survey.cameOn(d)) {
                row.add(d);
                failed++;
            }
        }
        return failed;
    }

    public int beast(int sign, int glass, int c) {
        Glass dial = glassAt(glass);
        if (dial == null || !canTally(sign, c, 1)) {
            return NONE;
        }
        lookOver(days, 1 << sign, c, 1);
        int bits = 0;
        for (int word = 0; word <= MOST_MARKS; word++) {
            tallyWord(dial, word);
            if (tally.leaning() != 0) {
                bits |= 1 << word;
            }
        }
        return bits;
    }

    public int holds(int sign, int c, int k) {
        if (!canTally(sign, c, k)) {
            return NONE;
        }
        lookOver(days, 1 << sign, c, k);
        int all = survey.size();
        int bits = 0;
        for (int q = 0; q < 4; q++) {
            tallyDays(q * all / 4, (q + 1) * all / 4);
            if (tally.verdict() == 1) {
                bits |= 1 << q;
            }
        }
        return bits;
    }

    // ---- coins

    public int person(int cost, int loss, int still) {
        if (!within(cost, 0, 99) || !within(loss, 0, 999) || !within(still, 0, 999)) {
            return NONE;
        }
        if (personCount >= MOST_PERSONS) {
            return NONE;
        }
        persons[personCount] = new Person(cost, loss, still);
        personCount++;
        return personCount - 1;
    }

    public int line(int person) {
        Person who = personAt(person);
        if (who == null) {
            return NONE;
        }
        if (who.gain() <= 0) {
            return -2;
        }
        row.clear();
        row.addFraction(who.cost(), who.gain());
        return 0;
    }

    public int blind(int person, int c, int k) {
        Person who = personAt(person);
        if (who == null || !isEvent(c, k)) {
            return NONE;
        }
        lookOver(days, 0, c, k);
        row.clear();
        row.add(survey.blindActs(who, survey.size()) ? 1 : 0);
        return survey.blindCoins(who);
    }

    public int saved(int person, int signs, int c, int k) {
        Person who = personAt(person);
        if (who == null || !areSigns(signs) || !isEvent(c, k)) {
            return NONE;
        }
        lookOver(days, signs, c, k);
        int coins = survey.coinsBySigns(who, signs);
        row.clear();
        row.add(coins);
        row.add(survey.setsStood());
        return survey.blindCoins(who) - coins;
    }

    public int few(int person, int m, int price, int c, int k) {
        Person who = personAt(person);
        if (who == null || !within(m, 1, 3) || !within(price, 0, 999) || !isEvent(c, k)) {
            return NONE;
        }
        if (signCount == 0) {
            return NONE;
        }
        int sets = 1 << signCount;
        lookOver(days, sets - 1, c, k);
        int blind = survey.blindCoins(who);
        int best = 0;
        int most = 0;
        for (int bits = 1; bits < sets; bits++) {
            int size = Integer.bitCount(bits);
            if (size > m) {
                continue;
            }
            int worth = blind - survey.coinsBySigns(who, bits) - price * size;
            // lesser bits come first and stay
            if (best == 0 || worth > most || worth == most && size < Integer.bitCount(best)) {
                best = bits;
                most = worth;
            }
        }
        row.clear();
        row.add(best);
        return most;
    }

    public int truly(int person, int signs, int c, int k) throws NoSuchElementException {
        Person who = personAt(person);
        if (who == null || !areSigns(signs) || !isEvent(c, k)) {
            throw new NoSuchElementException("no such person, signs or event");
        }
        lookOver(days, signs, c, k);
        int half = survey.size() / 2;
        int blind = survey.blindCoinsBehind(who, half);
        int bySigns = survey.coinsLearnt(who, signs, half);
        row.clear();
        row.add(blind);
        row.add(bySigns);
        return blind - bySigns;
    }

    public int level(int person, int glass, int what, int c, int k) {
        Person who = personAt(person);
        Glass dial = glassAt(glass);
        if (who == null || dial == null || !within(what, 0, 1) || !isEvent(c, k)) {
            return NONE;
        }
        lookOver(days, 0, c, k);
        int best = NEVER;
        int least = who.coins(false, survey.size(), survey.events(survey.size()));
        for (int d = 0; d < survey.size(); d++) {
            int v = levelOn(dial, what, d);
            int coins = coinsByLevel(who, dial, what, v);
            if (coins < least || coins == least && best != NEVER && v < best) {
                least = coins;
                best = v;
            }
        }
        row.clear();
        row.add(best);
        row.add(least);
        return survey.blindCoins(who) - least;
    }

    // ---- memory, drums

    public int remember(int person, int sign, int m, int c) {
        Person who = personAt(person);
        if (who == null || !canWatch(sign, m, c)) {
            return NONE;
        }
        liveThrough(who, 0, sign, m, c);
        watch.tellIn(row);
        return watch.coins();
    }

    public int drum(int sign, int c, int m, int q) {
        if (!canWatch(sign, m, c) || !within(q, 0, m)) {
            return NONE;
        }
        lookOver(days, 1 << sign, c, 1);
        watch.begin();
        int unheeded = -2;
        int vain = 0;
        int missed = 0;
        for (int d = 0; d < survey.size(); d++) {
            if (!survey.stoodOn(d)) {
                continue;
            }
            boolean comes = survey.cameOn(d);
            vain += comes ? 0 : 1;
            if (watch.followed(m) < q) {
                unheeded = unheeded == -2 ? d : unheeded;
                missed += comes ? 1 : 0;
            }
            watch.note(d, comes);
        }
        row.clear();
        row.add(watch.size());
        row.add(vain);
        row.add(missed);
        return unheeded;
    }

    public int cry(int sign, int c, int m) {
        if (!canWatch(sign, m, c)) {
            return NONE;
        }
        lookOver(days, 1 << sign, c, 1);
        watch.begin();
        int q = m;
        for (int d = 0; d < survey.size(); d++) {
            if (survey.stoodOn(d)) {
                q = Math.min(q, watch.followed(m));
                watch.note(d, survey.cameOn(d));
            }
        }
        return q;
    }

    // ---- hay

    public int mow(int sign, int h) {
        Omen it = signAt(sign);
        if (it == null || !within(h, 1, 6)) {
            return NONE;
        }
        lookAtGlasses(days);
        int in = 0;
        int spoilt = 0;
        int idle = 0;
        int d = 0;
        while (d + h < days.size()) {
            if (it.valueOn(days, d) == 0) {
                idle++;
                d++;
            } else if (days.fairBehind(d, h) == h) {
                in++;
                d += h + 1;
            } else {
                spoilt++;
                d += days.fairBehind(d, h) + 2;
            }
        }
        row.clear();
        row.add(spoilt);
        row.add(idle);
        return in;
    }

    public int fields(int h) {
        if (!within(h, 1, 6)) {
            return NONE;
        }
        row.clear();
        int in = 0;
        int d = 0;
        while (d + h < days.size()) {
            if (days.fairBehind(d, h) == h) {
                row.add(d);
                in++;
                d += h + 1;
            } else {
                d++;
            }
        }
        return in;
    }

    // ---- a village that talks

    public int start(int person, int day) {
        Person who = personAt(person);
        if (who == null || !within(day, 0, MOST_DAYS - 1)) {
            return NONE;
        }
        return who.setStart(day);
    }

    public int listen(int person, int bits) {
        Person who = personAt(person);
        if (who == null || !within(bits, 0, (1 << personCount) - 1) || (bits >> person & 1) != 0) {
            return NONE;
        }
        return who.setListens(bits);
    }

    public int village(int person, int sign, int m, int c) {
        Person who = personAt(person);
        if (who == null || !canWatch(sign, m, c)) {
            return NONE;
        }
        liveThrough(who, who.listens() | 1 << person, sign, m, c);
        watch.tellIn(row);
        return watch.coins();
    }

    public int first(int person, int sign, int m, int c) {
        Person who = personAt(person);
        if (who == null || !canWatch(sign, m, c)) {
            return NONE;
        }
        liveThrough(who, who.listens() | 1 << person, sign, m, c);
        return watch.firstDay();
    }

    // ---- another valley

    public int valley(int day, int weather) {
        if (!within(day, 0, MOST_DAYS - 1) || !isWeather(weather)) {
            return NONE;
        }
        return valley.tell(day, weather);
    }

    public int elsewhere(int sign, int c, int k) {
        Omen it = signAt(sign);
        if (it == null || !isEvent(c, k)) {
            return NONE;
        }
        lookAtGlasses(days);
        tally.clear();
        int known = days.known(k);
        for (int d = 0; d < known; d++) {
            int worst = valley.worstBehind(d, k);
            if (worst != NONE) {
                tally.take(it.valueOn(days, d) != 0, worst >= c);
            }
        }
        row.clear();
        addTable();
        row.add(tally.verdict());
        row.add(tally.all());
        return tally.both();
    }

    // ---- worlds

    public int worlds(int person, int signs, int days, int n, int c, int k) {
        Person who = personAt(person);
        if (who == null || !areSigns(signs) || !isEvent(c, k)) {
            return NONE;
        }
        if (!within(days, 1, 60) || !within(n, 1, 12)) {
            return NONE;
        }
        int before = chances.drawn();
        int above = 0;
        int sum = 0;
        int greatest = 0;
        for (int i = 0; i < n; i++) {
            makeWorld(days);
            lookOver(world, signs, c, k);
            int saving = survey.blindCoins(who) - survey.coinsBySigns(who, signs);
            above += saving > 0 ? 1 : 0;
            sum += saving;
            greatest = Math.max(greatest, saving);
        }
        chances.goOnFrom(before);
        row.clear();
        row.add(sum);
        row.add(greatest);
        return above;
    }

    // ---- tellings judged

    public int telling(int day, int percent) {
        if (!within(day, 0, MOST_DAYS - 1) || !within(percent, 0, 100)) {
            return NONE;
        }
        return office.tell(day, percent);
    }

    public int judge(int c, int measure) {
        if (!isEvent(c, 1) || !within(measure, 0, 1)) {
            return NONE;
        }
        int sum = 0;
        int came = 0;
        int not = 0;
        int known = days.known(1);
        for (int d = 0; d < known; d++) {
            int percent = office.toldOn(d);
            if (percent == NONE) {
                continue;
            }
            boolean comes = days.comes(d, c, 1);
            came += comes ? 1 : 0;
            not += comes ? 0 : 1;
            sum += distance(percent, comes ? 100 : 0, measure);
        }
        if (came + not == 0) {
            return -2;
        }
        int best = bestPercent(came, not, measure);
        row.clear();
        row.add(sum);
        row.add(allDistances(came, not, best, measure));
        row.add(best);
        return 0;
    }

    public int hedge(int p, int measure) {
        if (!within(p, 0, 100) || !within(measure, 0, 1)) {
            return NONE;
        }
        int best = bestPercent(p, 100 - p, measure);
        row.clear();
        row.add(allDistances(p, 100 - p, best, measure));
        row.add(allDistances(p, 100 - p, p, measure));
        return best;
    }

    public int told(int i, int c) {
        if (!within(i, 0, 10) || !isEvent(c, 1)) {
            return NONE;
        }
        int many = 0;
        int came = 0;
        int known = days.known(1);
        for (int d = 0; d < known; d++) {
            int percent = office.toldOn(d);
            if (percent != NONE && percent / 10 == i) {
                many++;
                came += days.comes(d, c, 1) ? 1 : 0;
            }
        }
        row.clear();
        row.add(came);
        return many;
    }

    // ---- glasses that stick

    public int see(int ahead, int behind) {
        if (!within(ahead, -999, 1999) || !within(behind, -999, 1999) || seenCount >= MOST_SEEN) {
            return NONE;
        }
        seenAhead[seenCount] = ahead;
        seenBehind[seenCount] = behind;
        seenCount++;
        return seenCount;
    }

    public int sticks() {
        int fit = 0;
        int least = 0;
        int greatest = 0;
        for (int stick = 0; stick <= MOST_STICK; stick++) {
            if (fitsSeen(stick)) {
                least = fit == 0 ? stick : least;
                greatest = stick;
                fit++;
            }
        }
        if (fit == 0) {
            // there is neither a least nor a greatest, so no ROW is told and the one told last stays
            return 0;
        }
        row.clear();
        row.add(least);
        row.add(greatest);
        return fit;
    }

    // ---- kept

    public boolean keep(int i) {
        return chances.store(i, days);
    }

    public boolean again(int i) {
        return chances.restore(i, days);
    }

    public int count(int what) {
        switch (what) {
            case 0:
                return days.size();
            case 1:
                return glassCount;
            case 2:
                return signCount;
            case 3:
                return personCount;
            case 4:
                return office.many();
            case 5:
                return seenCount;
            case 6:
                return row.size();
            case 7:
                return text.size();
            case 8:
                return valley.many();
            default:
                return NONE;
        }
    }

    public long row(int i) throws NoSuchElementException {
        if (!within(i, 0, row.size() - 1)) {
            throw new NoSuchElementException("no such number in the row");
        }
        return row.numberAt(i);
    }

    // ---- what the calls above are made of

    private static boolean within(int v, int least, int most) {
        return v >= least && v <= most;
    }

    private static boolean isWeather(int v) {
        return within(v, 0, MOST_WEATHER);
    }

    private static boolean isEvent(int c, int k) {
        return within(c, 1, 3) && within(k, 1, 9);
    }

    private static int clampAir(int v) {
        return Math.max(0, Math.min(MOST_AIR, v));
    }

    private static int sheetEntry(int kind, int v) {
        if (kind == 0) {
            return (byte) v;
        }
        return kind == 1 ? (short) v : v;
    }

    private Glass glassAt(int i) {
        return within(i, 0, glassCount - 1) && i < glasses.length ? glasses[i] : null;
    }

    private Omen signAt(int i) {
        return within(i, 0, signCount - 1) && i < signs.length ? signs[i] : null;
    }

    private Person personAt(int i) {
        return within(i, 0, personCount - 1) && i < persons.length ? persons[i] : null;
    }

    private boolean areSigns(int bits) {
        return within(bits, 1, (1 << signCount) - 1);
    }

    private boolean canTally(int sign, int c, int k) {
        return signAt(sign) != null && isEvent(c, k);
    }

    private boolean canWatch(int sign, int m, int c) {
        return canTally(sign, c, 1) && within(m, 1, MOST_TIMES);
    }

    private void lookAtGlasses(Days at) {
        for (int i = 0; i < glassCount; i++) {
            Glass dial = glassAt(i);
            if (dial != null) {
                dial.look(at);
            }
        }
    }

    private int daysAlike(Glass a, int shift, Glass b) {
        int alike = 0;
        for (int d = 0; d < days.size(); d++) {
            if (a.wordOn(d, shift) == b.wordOn(d, 0)) {
                alike++;
            }
        }
        return alike;
    }

    private int daysAlone(Glass it, Glass a, Glass b) {
        int alone = 0;
        for (int d = 0; d < days.size(); d++) {
            int word = a.wordOn(d, 0);
            if (word == b.wordOn(d, 0) && word != it.wordOn(d, 0)) {
                alone++;
            }
        }
        return alone;
    }

    /** Notes for each KNOWN DAY which of the signs told as bits stand, and whether the event comes. */
    private void lookOver(Days at, int bits, int c, int k) {
        lookAtGlasses(at);
        survey.clear();
        int known = at.known(k);
        for (int d = 0; d < known; d++) {
            survey.note(standing(at, bits, d), at.comes(d, c, k));
        }
    }

    private int standing(Days at, int bits, int d) {
        int set = 0;
        for (int i = 0; i < signCount; i++) {
            Omen it = (bits >> i & 1) != 0 ? signAt(i) : null;
            if (it != null && it.valueOn(at, d) != 0) {
                set |= 1 << i;
            }
        }
        return set;
    }

    private void tallySign(int sign, int c, int k) {
        lookOver(days, 1 << sign, c, k);
        tallyDays(0, survey.size());
    }

    private void tallyDays(int from, int to) {
        tally.clear();
        for (int d = from; d < to; d++) {
            tally.take(survey.stoodOn(d), survey.cameOn(d));
        }
    }

    private void tallyWord(Glass dial, int word) {
        tally.clear();
        for (int d = 0; d < survey.size(); d++) {
            if (dial.wordOn(d, 0) == word) {
                tally.take(survey.stoodOn(d), survey.cameOn(d));
            }
        }
    }

    private void addTable() {
        row.add(tally.both());
        row.add(tally.inVain());
        row.add(tally.without());
        row.add(tally.neither());
    }

    /** In how many ways k of n can be chosen; up to n 60 no step of it leaves the longs. */
    private static long choices(int n, int k) {
        if (k < 0 || k > n) {
            return 0;
        }
        int less = Math.min(k, n - k);
        long ways = 1;
        for (int i = 1; i <= less; i++) {
            ways = ways * (n - less + i) / i;
        }
        return ways;
    }

    private int levelOn(Glass dial, int what, int d) {
        return what == 0 ? dial.readingOn(d) : dial.fallOn(d);
    }

    private int coinsByLevel(Person who, Glass dial, int what, int v) {
        int coins = 0;
        for (int d = 0; d < survey.size(); d++) {
            int it = levelOn(dial, what, d);
            boolean acts = what == 0 ? it <= v : it >= v;
            coins += who.coins(acts, 1, survey.cameOn(d) ? 1 : 0);
        }
        return coins;
    }

    /** Goes by a sign day by day; heard 0: by what it has stood for from DAY 0 on, else by PERSONS' times. */
    private void liveThrough(Person who, int heard, int sign, int m, int c) {
        lookOver(days, 1 << sign, c, 1);
        watch.begin();
        for (int d = 0; d < survey.size(); d++) {
            boolean stands = survey.stoodOn(d);
            boolean comes = survey.cameOn(d);
            watch.live(who, d, stands && isWorthIt(who, heard, m), comes);
            if (stands) {
                watch.note(d, comes);
            }
        }
    }

    private boolean isWorthIt(Person who, int heard, int m) {
        watch.sumNothing();
        if (heard == 0) {
            watch.sumLatest(m, 0);
        }
        for (int i = 0; i < personCount; i++) {
            Person other = (heard >> i & 1) != 0 ? personAt(i) : null;
            if (other != null) {
                watch.sumLatest(m, other.startDay());
            }
        }
        return watch.events() * who.gain() > watch.times() * who.cost();
    }

    private void makeWorld(int many) {
        world.shrinkTo(0);
        for (int d = 0; d < many; d++) {
            chances.makeDay(world);
        }
    }

    private static int distance(int percent, int from, int measure) {
        int far = Math.abs(percent - from);
        return measure == 0 ? far * far : far;
    }

    private static int allDistances(int came, int not, int percent, int measure) {
        return came * distance(percent, 100, measure) + not * distance(percent, 0, measure);
    }

    private static int bestPercent(int came, int not, int measure) {
        int best = 0;
        for (int percent = 1; percent <= 100; percent++) {
            if (allDistances(came, not, percent, measure) < allDistances(came, not, best, measure)) {
                best = percent;
            }
        }
        return best;
    }

    private boolean fitsSeen(int stick) {
        for (int i = 1; i < seenCount; i++) {
            int stood = seenBehind[i - 1];
            boolean moves = Math.abs(seenBehind[i] - stood) > stick;
            if (seenAhead[i] != (moves ? seenBehind[i] : stood)) {
                return false;
            }
        }
        return true;
    }

    /** The DAYS, or those of a world. */
    private static final class Days {
        private final int[] weathers = new int[MOST_DAYS];
        private final int[] airs = new int[MOST_DAYS];
        private final int[] skies = new int[MOST_DAYS];
        private int size;

        int size() {
            return size;
        }

        boolean has(int d) {
            return d >= 0 && d < size;
        }

        void add(int weather, int air, int sky) {
            if (size < MOST_DAYS) {
                weathers[size] = weather;
                airs[size] = air;
                skies[size] = sky;
                size++;
            }
        }

        void shrinkTo(int n) {
            size = Math.max(0, Math.min(size, n));
        }

        int weatherOn(int d) {
            return d >= 0 && d < size ? weathers[d] : 0;
        }

        int airOn(int d) {
            return d >= 0 && d < size ? airs[d] : 0;
        }

        int skyOn(int d) {
            return d >= 0 && d < size ? skies[d] : 0;
        }

        int known(int k) {
            return Math.max(0, size - k);
        }

        boolean comes(int d, int c, int k) {
            for (int i = 1; i <= k; i++) {
                if (weatherOn(d + i) >= c) {
                    return true;
                }
            }
            return false;
        }

        /** How many of the h DAYS next are of WEATHER 0, up to the first that is not. */
        int fairBehind(int d, int h) {
            int fair = 0;
            while (fair < h && weatherOn(d + fair + 1) == 0) {
                fair++;
            }
            return fair;
        }
    }

    /** What DAYS are made by, and what is kept of them. */
    private static final class Chances {
        private static final int WEATHERS = MOST_WEATHER + 1;
        private static final int PLACES = 3;

        private final int[] weights = new int[WEATHERS * WEATHERS];
        private final int[] steps = new int[WEATHERS];
        private int drawn = 1;
        private final boolean[] kept = new boolean[PLACES];
        private final int[] keptSize = new int[PLACES];
        private final int[] keptDrawn = new int[PLACES];

        Chances() {
            for (int i = 0; i < weights.length; i++) {
                weights[i] = 1;
            }
        }

        int drawn() {
            return drawn;
        }

        void goOnFrom(int v) {
            drawn = v;
        }

        private int weightOf(int from, int to) {
            return isWeather(from) && isWeather(to) ? weights[from * WEATHERS + to] : 0;
        }

        int setWeight(int from, int to, int v) {
            int before = weightOf(from, to);
            if (isWeather(from) && isWeather(to)) {
                weights[from * WEATHERS + to] = v;
            }
            return before;
        }

        private int stepOf(int weather) {
            return isWeather(weather) ? steps[weather] : 0;
        }

        int setStep(int weather, int v) {
            int before = stepOf(weather);
            if (isWeather(weather)) {
                steps[weather] = v;
            }
            return before;
        }

        private int draw(int n) {
            drawn = drawn * 1103515245 + 12345;
            return n > 0 ? (drawn >>> 16) % n : 0;
        }

        private int drawWeather(int latest) {
            int sum = 0;
            for (int to = 0; to < WEATHERS; to++) {
                sum += weightOf(latest, to);
            }
            if (sum == 0) {
                return latest;
            }
            int left = draw(sum);
            int weather = 0;
            while (weather < MOST_WEATHER && left >= weightOf(latest, weather)) {
                left -= weightOf(latest, weather);
                weather++;
            }
            return weather;
        }

        void makeDay(Days at) {
            int latest = at.size() - 1;
            int weather = drawWeather(latest < 0 ? 0 : at.weatherOn(latest));
            int air = latest < 0 ? 500 : at.airOn(latest);
            air = clampAir(air + stepOf(weather) + draw(21) - 10);
            at.add(weather, air, draw(MOST_SKY + 1));
        }

        boolean store(int i, Days at) {
            if (i < 0 || i >= PLACES) {
                return false;
            }
            kept[i] = true;
            keptSize[i] = at.size();
            keptDrawn[i] = drawn;
            return true;
        }

        boolean restore(int i, Days at) {
            if (i < 0 || i >= PLACES || !kept[i] || at.size() < keptSize[i]) {
                return false;
            }
            at.shrinkTo(keptSize[i]);
            drawn = keptDrawn[i];
            return true;
        }
    }

    /** A glass; how its hand goes is written down by look(), for the DAYS that were looked at last. */
    private static final class Glass {
        private final int height;
        private final int lean;
        private final int stick;
        private boolean tapped = true;
        private final int[] marks = new int[MOST_MARKS];
        private int markCount;
        private final int[] hands = new int[MOST_DAYS];
        private final int[] readings = new int[MOST_DAYS];

        Glass(int height, int lean, int stick) {
            this.height = height;
            this.lean = lean;
            this.stick = stick;
        }

        void setTapped(boolean is) {
            tapped = is;
        }

        int markCount() {
            return markCount;
        }

        boolean addMark(int v) {
            for (int i = 0; i < markCount; i++) {
                if (marks[i] == v) {
                    return false;
                }
            }
            if (markCount >= MOST_MARKS) {
                return false;
            }
            marks[markCount] = v;
            markCount++;
            return true;
        }

        int trueOn(Days at, int d) {
            return at.airOn(d) + lean - height;
        }

        void look(Days at) {
            int stood = 0;
            for (int d = 0; d < at.size() && d < MOST_DAYS; d++) {
                int is = trueOn(at, d);
                hands[d] = d == 0 || Math.abs(is - stood) > stick ? is : stood;
                readings[d] = tapped ? is : hands[d];
                // behind the tap, or without one, the hand stands at what it shows
                stood = readings[d];
            }
        }

        int handOn(int d) {
            return d >= 0 && d < MOST_DAYS ? hands[d] : 0;
        }

        int readingOn(int d) {
            return d >= 0 && d < MOST_DAYS ? readings[d] : 0;
        }

        int fallOn(int d) {
            return d > 0 && d < MOST_DAYS ? readings[d - 1] - readings[d] : 0;
        }

        /** The WORD that there would be, if all MARKS were shifted. */
        int wordOn(int d, int shift) {
            int reading = d >= 0 && d < MOST_DAYS ? readings[d] : 0;
            int word = 0;
            for (int i = 0; i < markCount; i++) {
                if (marks[i] + shift <= reading) {
                    word++;
                }
            }
            return word;
        }
    }

    /** THE TEXT, and how it is read: into a code in which each sign stands behind what it binds. */
    private static final class Text {
        private static final int MOST_TEXT = 60;
        private static final int MOST_READ = 40;
        private static final int MOST_BRACKETS = 5;
        private static final int MOST_DIGITS = 3;

        private final int[] written = new int[MOST_TEXT];
        private int size;
        private final int[] code = new int[MOST_READ];
        private int codeSize;
        private final int[] waiting = new int[MOST_READ];
        private int waitingSize;
        private final boolean[] compared = new boolean[MOST_BRACKETS + 1];
        private int brackets;
        private int digits;
        private boolean wantsThing;

        int size() {
            return size;
        }

        boolean append(int v) {
            if (size + 4 > MOST_TEXT) {
                return false;
            }
            for (int shift = 24; shift >= 0; shift -= 8) {
                written[size] = v >>> shift & 255;
                size++;
            }
            return true;
        }

        boolean cut(int n) {
            if (n < 0 || n > size) {
                return false;
            }
            size = n;
            return true;
        }

        /** The place of what can't stand there, or NONE if the text is an expression. */
        int wrongPlace() {
            codeSize = 0;
            waitingSize = 0;
            brackets = 0;
            digits = 0;
            wantsThing = true;
            compared[0] = false;
            for (int p = 0; p < size; p++) {
                if (p >= MOST_READ || !takes(written[p])) {
                    return p;
                }
            }
            if (wantsThing || brackets > 0) {
                return size;
            }
            writeWaiting(1);
            return NONE;
        }

        int[] codeRead() {
            int[] copy = new int[codeSize];
            System.arraycopy(code, 0, copy, 0, codeSize);
            return copy;
        }

        private boolean takes(int sign) {
            boolean digit = sign >= '0' && sign <= '9';
            if (wantsThing) {
                return digit ? takesFirstDigit(sign - '0') : takesThing(sign);
            }
            if (digit) {
                return takesDigit(sign - '0');
            }
            return sign == ')' ? takesClosing() : takesLink(sign);
        }

        private boolean takesFirstDigit(int digit) {
            write(digit);
            digits = 1;
            wantsThing = false;
            return true;
        }

        private boolean takesDigit(int digit) {
            if (digits == 0 || digits >= MOST_DIGITS || codeSize == 0) {
                return false;
            }
            code[codeSize - 1] = code[codeSize - 1] * 10 + digit;
            digits++;
            return true;
        }

        private boolean takesThing(int sign) {
            if (Omen.isLetter(sign)) {
                write(Omen.FIRST_SIGN + sign);
                digits = 0;
                wantsThing = false;
                return true;
            }
            if (sign == '!' || sign == '-') {
                await(sign == '-' ? Omen.NEGATIVE : sign);
                return true;
            }
            if (sign != '(' || brackets >= MOST_BRACKETS) {
                return false;
            }
            brackets++;
            compared[brackets] = false;
            await(sign);
            return true;
        }

        private boolean takesClosing() {
            if (brackets == 0) {
                return false;
            }
            writeWaiting(1);
            // what is left on top is the bracket that was opened
            waitingSize = Math.max(0, waitingSize - 1);
            brackets--;
            digits = 0;
            return true;
        }

        private boolean takesLink(int sign) {
            int strength = Omen.strength(sign);
            if (strength < Omen.WEAKEST || strength > Omen.STRONGEST_LINK) {
                return false;
            }
            if (strength == Omen.COMPARISON && compared[brackets]) {
                return false;
            }
            if (strength <= Omen.COMPARISON) {
                compared[brackets] = strength == Omen.COMPARISON;
            }
            writeWaiting(strength);
            await(sign);
            wantsThing = true;
            return true;
        }

        /** What waits and binds at least so strongly is written, down to the latest bracket. */
        private void writeWaiting(int strength) {
            while (waitingSize > 0 && Omen.strength(waiting[waitingSize - 1]) >= strength) {
                waitingSize--;
                write(Omen.FIRST_SIGN + waiting[waitingSize]);
            }
        }

        private void await(int sign) {
            if (waitingSize < MOST_READ) {
                waiting[waitingSize] = sign;
                waitingSize++;
            }
        }

        private void write(int v) {
            if (codeSize < MOST_READ) {
                code[codeSize] = v;
                codeSize++;
            }
        }
    }

    /** A SIGN: numbers of its code below FIRST_SIGN mean themselves, others a sign of the text. */
    private static final class Omen {
        static final int FIRST_SIGN = 1000;
        static final int NEGATIVE = '~';
        static final int WEAKEST = 1;
        static final int COMPARISON = 3;
        static final int STRONGEST_LINK = 4;

        private final Glass glass;
        private final int[] code;
        private final int[] stack;

        Omen(Glass glass, int[] code) {
            this.glass = glass;
            this.code = code;
            stack = new int[code.length];
        }

        static boolean isLetter(int sign) {
            return "wpftykd".indexOf((char) sign) >= 0;
        }

        /** How strongly a sign binds; 0 for one that binds nothing. */
        static int strength(int sign) {
            switch (sign) {
                case '|':
                    return WEAKEST;
                case '&':
                    return 2;
                case '<':
                case '>':
                case '=':
                    return COMPARISON;
                case '+':
                case '-':
                    return STRONGEST_LINK;
                case '!':
                case NEGATIVE:
                    return 5;
                default:
                    return 0;
            }
        }

        int valueOn(Days at, int d) {
            int top = 0;
            for (int i = 0; i < code.length; i++) {
                int sign = code[i] - FIRST_SIGN;
                int strength = strength(sign);
                // a thing takes nothing from the stack, ! and - ahead of one take it, links take two
                int takes = strength == 0 ? 0 : strength > STRONGEST_LINK ? 1 : 2;
                top -= takes;
                if (top < 0 || top >= stack.length) {
                    return 0;
                }
                int right = takes == 2 && top + 1 < stack.length ? stack[top + 1] : 0;
                stack[top] = takes == 0 ? thing(code[i], at, d) : joined(sign, stack[top], right);
                top++;
            }
            return top > 0 ? stack[top - 1] : 0;
        }

        private int thing(int it, Days at, int d) {
            switch (it - FIRST_SIGN) {
                case 'w':
                    return glass.wordOn(d, 0);
                case 'p':
                    return glass.readingOn(d);
                case 'f':
                    return glass.fallOn(d);
                case 't':
                    return at.weatherOn(d);
                case 'y':
                    return at.weatherOn(d > 0 ? d - 1 : 0);
                case 'k':
                    return at.skyOn(d);
                case 'd':
                    return d;
                default:
                    return it;
            }
        }

        /** What a sign makes of what it binds; one that binds a single thing has it as its left. */
        private static int joined(int sign, int left, int right) {
            switch (sign) {
                case '|':
                    return left != 0 || right != 0 ? 1 : 0;
                case '&':
                    return left != 0 && right != 0 ? 1 : 0;
                case '<':
                    return left < right ? 1 : 0;
                case '>':
                    return left > right ? 1 : 0;
                case '=':
                    return left == right ? 1 : 0;
                case '+':
                    return left + right;
                case '-':
                    return left - right;
                case '!':
                    return left == 0 ? 1 : 0;
                default:
                    return -left;
            }
        }
    }

    private static final class Person {
        private final int cost;
        private final int loss;
        private final int still;
        private int start;
        private int listens;

        Person(int cost, int loss, int still) {
            this.cost = cost;
            this.loss = loss;
            this.still = still;
        }

        int cost() {
            return cost;
        }

        /** What to have ACTED spares, if the EVENT comes. */
        int gain() {
            return loss - still;
        }

        int startDay() {
            return start;
        }

        int setStart(int day) {
            int before = start;
            start = day;
            return before;
        }

        int listens() {
            return listens;
        }

        int setListens(int bits) {
            int before = listens;
            listens = bits;
            return before;
        }

        int coins(boolean acts, int many, int events) {
            return acts ? cost * many + still * events : loss * events;
        }

        boolean shouldAct(int many, int events) {
            return coins(true, many, events) < coins(false, many, events);
        }
    }

    /** The KNOWN DAYS of a call: which signs stood on each, and whether the event came behind it. */
    private static final class Survey {
        private static final int SETS = 1 << MOST_SIGNS;

        private final int[] sets = new int[MOST_DAYS];
        private final boolean[] came = new boolean[MOST_DAYS];
        private int size;
        // by sets of signs; all 0 between calls, as each call clears the sets that it met
        private final int[] setDays = new int[SETS];
        private final int[] setEvents = new int[SETS];
        private int setsStood;

        void clear() {
            size = 0;
        }

        void note(int set, boolean comes) {
            if (size < MOST_DAYS) {
                sets[size] = set;
                came[size] = comes;
                size++;
            }
        }

        int size() {
            return size;
        }

        boolean stoodOn(int d) {
            return d >= 0 && d < size && sets[d] != 0;
        }

        boolean cameOn(int d) {
            return d >= 0 && d < size && came[d];
        }

        /** How many of the first days have the event. */
        int events(int many) {
            int events = 0;
            for (int d = 0; d < many; d++) {
                events += cameOn(d) ? 1 : 0;
            }
            return events;
        }

        boolean blindActs(Person who, int many) {
            return who.shouldAct(many, events(many));
        }

        int blindCoins(Person who) {
            return who.coins(blindActs(who, size), size, events(size));
        }

        int blindCoinsBehind(Person who, int half) {
            return who.coins(blindActs(who, half), size - half, events(size) - events(half));
        }

        int setsStood() {
            return setsStood;
        }

        private int setOn(int d, int bits) {
            return d >= 0 && d < size ? sets[d] & bits & SETS - 1 : 0;
        }

        private void countSets(int bits, int many) {
            for (int d = 0; d < many; d++) {
                int set = setOn(d, bits);
                setDays[set]++;
                setEvents[set] += cameOn(d) ? 1 : 0;
            }
        }

        int coinsBySigns(Person who, int bits) {
            countSets(bits, size);
            setsStood = 0;
            int coins = 0;
            for (int d = 0; d < size; d++) {
                int set = setOn(d, bits);
                if (setDays[set] > 0) {
                    boolean acts = who.shouldAct(setDays[set], setEvents[set]);
                    coins += who.coins(acts, setDays[set], setEvents[set]);
                    setsStood++;
                    setDays[set] = 0;
                    setEvents[set] = 0;
                }
            }
            return coins;
        }

        /** COINS of the days behind the first ones, by what those teach. */
        int coinsLearnt(Person who, int bits, int half) {
            boolean blind = blindActs(who, half);
            countSets(bits, half);
            int coins = 0;
            for (int d = half; d < size; d++) {
                int set = setOn(d, bits);
                boolean acts = setDays[set] > 0 ? who.shouldAct(setDays[set], setEvents[set]) : blind;
                coins += who.coins(acts, 1, cameOn(d) ? 1 : 0);
            }
            for (int d = 0; d < half; d++) {
                setDays[setOn(d, bits)] = 0;
                setEvents[setOn(d, bits)] = 0;
            }
            return coins;
        }
    }

    /** How often a sign and an event are together, and each alone. */
    private static final class Tally {
        private int both;
        private int inVain;
        private int without;
        private int neither;

        void clear() {
            both = 0;
            inVain = 0;
            without = 0;
            neither = 0;
        }

        void take(boolean stands, boolean comes) {
            both += stands && comes ? 1 : 0;
            inVain += stands && !comes ? 1 : 0;
            without += !stands && comes ? 1 : 0;
            neither += !stands && !comes ? 1 : 0;
        }

        int both() {
            return both;
        }

        int inVain() {
            return inVain;
        }

        int without() {
            return without;
        }

        int neither() {
            return neither;
        }

        int stands() {
            return both + inVain;
        }

        int events() {
            return both + without;
        }

        int all() {
            return both + inVain + without + neither;
        }

        /** Above 0 if they are together more often than by themselves, below 0 if less. */
        int leaning() {
            return both * all() - stands() * events();
        }

        /** 1 more, 2 less, 0 alike, -2 if the sign stands on none. */
        int verdict() {
            if (stands() == 0) {
                return -2;
            }
            int leaning = leaning();
            if (leaning == 0) {
                return 0;
            }
            return leaning > 0 ? 1 : 2;
        }
    }

    /** The times that a sign stood so far, and what one has done by them. */
    private static final class Watch {
        private final int[] stoodOn = new int[MOST_DAYS];
        private final boolean[] cameBehind = new boolean[MOST_DAYS];
        private int size;
        private int times;
        private int events;
        private int coins;
        private int acted;
        private int inVain;
        private int without;
        private int firstDay;

        void begin() {
            size = 0;
            coins = 0;
            acted = 0;
            inVain = 0;
            without = 0;
            firstDay = -2;
        }

        void note(int d, boolean comes) {
            if (size < MOST_DAYS) {
                stoodOn[size] = d;
                cameBehind[size] = comes;
                size++;
            }
        }

        int size() {
            return size;
        }

        void sumNothing() {
            times = 0;
            events = 0;
        }

        void sumLatest(int m, int from) {
            int last = Math.max(0, size - m);
            for (int i = size - 1; i >= last && stoodOn[i] >= from; i--) {
                times++;
                events += cameBehind[i] ? 1 : 0;
            }
        }

        int times() {
            return times;
        }

        int events() {
            return events;
        }

        /** How many of the latest m times the event followed; m if there were fewer, as trust is whole then. */
        int followed(int m) {
            if (size < m) {
                return m;
            }
            sumNothing();
            sumLatest(m, 0);
            return events;
        }

        void live(Person who, int d, boolean acts, boolean comes) {
            coins += who.coins(acts, 1, comes ? 1 : 0);
            acted += acts ? 1 : 0;
            inVain += acts && !comes ? 1 : 0;
            without += !acts && comes ? 1 : 0;
            if (acts && firstDay < 0) {
                firstDay = d;
            }
        }

        int coins() {
            return coins;
        }

        int firstDay() {
            return firstDay;
        }

        void tellIn(Row row) {
            row.clear();
            row.add(acted);
            row.add(inVain);
            row.add(without);
        }
    }

    /** What others told for DAYS, a number each. */
    private static final class Told {
        private final int[] numbers = new int[MOST_DAYS];
        private int many;

        Told() {
            for (int d = 0; d < numbers.length; d++) {
                numbers[d] = NONE;
            }
        }

        int many() {
            return many;
        }

        int toldOn(int d) {
            return d >= 0 && d < MOST_DAYS ? numbers[d] : NONE;
        }

        int tell(int d, int v) {
            if (d >= 0 && d < MOST_DAYS) {
                many += numbers[d] == NONE ? 1 : 0;
                numbers[d] = v;
            }
            return many;
        }

        /** The greatest of the k DAYS next, or NONE if one of them was not told. */
        int worstBehind(int d, int k) {
            int worst = 0;
            for (int i = 1; i <= k; i++) {
                if (toldOn(d + i) == NONE) {
                    return NONE;
                }
                worst = Math.max(worst, toldOn(d + i));
            }
            return worst;
        }
    }

    /** THE ROW; of a longer list it keeps the first numbers. */
    private static final class Row {
        private static final int MOST_NUMBERS = 20;
        private static final int MOST_STEPS = 1000;

        private final long[] numbers = new long[MOST_NUMBERS];
        private int size;

        void clear() {
            size = 0;
        }

        void add(long v) {
            if (size < MOST_NUMBERS) {
                numbers[size] = v;
                size++;
            }
        }

        void addFraction(long upper, long lower) {
            long divisor = commonDivisor(upper, lower);
            if (divisor != 0) {
                add(upper / divisor);
                add(lower / divisor);
            }
        }

        /** The greatest common divisor; of two longs it is found in less than MOST_STEPS. */
        private static long commonDivisor(long a, long b) {
            long divisor = a;
            long rest = b;
            for (int i = 0; i < MOST_STEPS && rest != 0; i++) {
                long next = divisor % rest;
                divisor = rest;
                rest = next;
            }
            return divisor;
        }

        int size() {
            return size;
        }

        long numberAt(int i) {
            return i >= 0 && i < size ? numbers[i] : 0;
        }
    }
}
