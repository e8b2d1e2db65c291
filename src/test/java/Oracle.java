import java.math.BigInteger;
import java.util.ArrayList;
import java.util.HashMap;
import java.util.List;
import java.util.Map;
import java.util.regex.Matcher;
import java.util.regex.Pattern;

/**
 * The document once more, by other ways than the class takes: sets are tried one by one, days one by one,
 * texts are read by patterns. Slow and wasteful, so that it is easy to compare with the document's words.
 */
final class Oracle {
    static final int UNKNOWN = -1, OUTSIDE = -2, STATE = -3, FULL = -4, NO = -5, NONE = -6;
    static final long LOST = -1000000000000000000L;
    private static final Pattern RULE = Pattern.compile("(\\d{1,4}),(\\d{1,4})>(\\d{1,4}):(\\d{1,4});");
    private static final Pattern TEXT = Pattern.compile("(?:\\d{1,4},\\d{1,4}>\\d{1,4}:\\d{1,4};)*(\\d{1,4})");

    static final class Quake {
        int number, list, day, x, y, greatness, told;
        boolean blast;
    }

    static final class House {
        int x, y, kind, worth, price;
    }

    static final class Law {
        int x, y, greatness, often;
    }

    private final List<Quake> quakes = new ArrayList<>();
    private final List<House> houses = new ArrayList<>();
    private final List<Law> laws = new ArrayList<>();
    private final List<String> forecasts = new ArrayList<>();
    private String signs = "";
    private final int[] settings = {1, 1, 5, 100, 5};
    private final int[][] steps = {new int[10], new int[8], new int[8]};
    private final int[][] damages = new int[4][10];

    private static boolean in(long v, long least, long most) {
        return least <= v && v <= most;
    }

    private static boolean cell(int x, int y) {
        return in(x, 0, 15) && in(y, 0, 15);
    }

    private static boolean day(int day) {
        return in(day, 0, 3999);
    }

    private boolean has(int quake) {
        return in(quake, 0, quakes.size() - 1);
    }

    private static int far(int x, int y, int otherX, int otherY) {
        return Math.max(Math.abs(x - otherX), Math.abs(y - otherY));
    }

    private List<Quake> ordered() {
        List<Quake> sorted = new ArrayList<>(quakes);
        sorted.sort((one, other) -> one.day != other.day ? one.day - other.day : one.number - other.number);
        return sorted;
    }

    private List<Quake> counted(int list, int known) {
        List<Quake> found = ordered();
        found.removeIf(q -> q.blast || q.told > known || list != -1 && q.list != list);
        return found;
    }

    private static long part(BigInteger upper, BigInteger lower, int part) {
        BigInteger divisor = upper.gcd(lower);
        return (part == 0 ? upper : lower).divide(divisor).longValueExact();
    }

    private static BigInteger big(long v) {
        return BigInteger.valueOf(v);
    }

    int quake(int list, int day, int x, int y, int greatness, int told) {
        if (!in(list, 0, 2) || !cell(x, y)) return UNKNOWN;
        if (!day(day) || !in(greatness, 0, 90) || !day(told) || told < day) return OUTSIDE;
        if (quakes.size() == 40) return FULL;
        Quake q = new Quake();
        q.number = quakes.size();
        q.list = list;
        q.day = day;
        q.x = x;
        q.y = y;
        q.greatness = greatness;
        q.told = told;
        quakes.add(q);
        return q.number;
    }

    int blast(int quake, boolean is) {
        if (!has(quake)) return UNKNOWN;
        boolean was = quakes.get(quake).blast;
        quakes.get(quake).blast = is;
        return was ? 1 : 0;
    }

    int mend(int quake, int greatness) {
        if (!has(quake)) return UNKNOWN;
        if (!in(greatness, 0, 90)) return OUTSIDE;
        int was = quakes.get(quake).greatness;
        quakes.get(quake).greatness = greatness;
        return was;
    }

    int about(int quake, int what) {
        if (!has(quake)) return UNKNOWN;
        if (!in(what, 0, 7)) return OUTSIDE;
        Quake q = quakes.get(quake);
        int[] all = {q.list, q.day, q.x, q.y, q.greatness, q.told, q.blast ? 1 : 0, ordered().indexOf(q)};
        return all[what];
    }

    int set(int which, int v) {
        int[] least = {0, 0, 0, 1, 0};
        int[] most = {10, 5, 20, 100000, 20};
        if (!in(which, 0, 4) || !in(v, least[which], most[which])) return OUTSIDE;
        int was = settings[which];
        settings[which] = v;
        return was;
    }

    /** Pairs from some row on: how many, their miss, and the partners as places in b (99 for none). */
    private record Pairing(int pairs, int miss, List<Integer> partners) {
        boolean isBetterThan(Pairing other) {
            if (pairs != other.pairs) return pairs > other.pairs;
            if (miss != other.miss) return miss < other.miss;
            for (int i = 0; i < partners.size(); i++) {
                int order = Integer.compare(partners.get(i), other.partners.get(i));
                if (order != 0) return order < 0;
            }
            return false;
        }
    }

    private Pairing pairing(List<Quake> a, List<Quake> b, int row, int taken, Map<Integer, Pairing> found) {
        if (row == a.size()) return new Pairing(0, 0, List.of());
        int key = row << 12 | taken;
        if (found.containsKey(key)) return found.get(key);
        Pairing best = null;
        Quake one = a.get(row);
        for (int i = 0; i <= b.size(); i++) {
            int miss = 0;
            if (i < b.size()) {
                Quake other = b.get(i);
                int days = Math.abs(one.day - other.day);
                int cells = far(one.x, one.y, other.x, other.y);
                int tenths = Math.abs(one.greatness - other.greatness);
                if ((taken >> i & 1) == 1 || days > settings[0] || cells > settings[1] || tenths > settings[2]) continue;
                miss = days + cells + tenths;
            }
            Pairing rest = pairing(a, b, row + 1, i < b.size() ? taken | 1 << i : taken, found);
            List<Integer> partners = new ArrayList<>();
            partners.add(i < b.size() ? i : 99);
            partners.addAll(rest.partners);
            Pairing now = new Pairing(rest.pairs + (i < b.size() ? 1 : 0), rest.miss + miss, partners);
            if (best == null || now.isBetterThan(best)) best = now;
        }
        found.put(key, best);
        return best;
    }

    int join(int a, int b, int i) {
        if (!in(a, 0, 2) || !in(b, 0, 2) || a == b) return UNKNOWN;
        if (i < -2 || i >= quakes.size() || i >= 0 && quakes.get(i).list != a) return UNKNOWN;
        List<Quake> ofA = new ArrayList<>(quakes);
        ofA.removeIf(q -> q.list != a);
        List<Quake> ofB = new ArrayList<>(quakes);
        ofB.removeIf(q -> q.list != b);
        if (ofA.size() > 12 || ofB.size() > 12) return NO;
        Pairing best = pairing(ofA, ofB, 0, 0, new HashMap<>());
        if (i == -1) return best.pairs;
        if (i == -2) return best.miss;
        int place = best.partners.get(ofA.indexOf(quakes.get(i)));
        return place == 99 ? NONE : ofB.get(place).number;
    }

    int often(int list, int known, int m) {
        if (!in(list, -1, 2)) return UNKNOWN;
        if (!day(known) || !in(m, 0, 90)) return OUTSIDE;
        return (int) counted(list, known).stream().filter(q -> q.greatness >= m).count();
    }

    int whole(int list, int known) {
        if (!in(list, -1, 2)) return UNKNOWN;
        if (!day(known)) return OUTSIDE;
        int best = NONE;
        long most = 0;
        for (int g = 90; g >= 0; g--) {
            int greatness = g;
            long many = counted(list, known).stream().filter(q -> q.greatness == greatness).count();
            if (many > 0 && many >= most) {
                most = many;
                best = g;
            }
        }
        return best;
    }

    long slope(int list, int known, int m, int part) {
        if (!in(list, -1, 2)) return LOST + UNKNOWN;
        if (!day(known) || !in(m, 0, 90) || !in(part, 0, 1)) return LOST + OUTSIDE;
        long n = often(list, known, m);
        if (n == 0) return LOST + STATE;
        long sum = 0;
        for (Quake q : counted(list, known)) {
            if (q.greatness >= m) sum += q.greatness - m;
        }
        return part(big(2 * n), big(n + 2 * sum), part);
    }

    private static BigInteger factorial(int n) {
        return n < 2 ? BigInteger.ONE : big(n).multiply(factorial(n - 1));
    }

    private static BigInteger choose(int n, int k) {
        if (k < 0 || k > n) return BigInteger.ZERO;
        return factorial(n).divide(factorial(k)).divide(factorial(n - k));
    }

    long alike(int a, int b, int m, int part) {
        if (!in(a, 0, 2) || !in(b, 0, 2) || a == b) return LOST + UNKNOWN;
        if (!in(m, 0, 90) || !in(part, 0, 1)) return LOST + OUTSIDE;
        int has = often(a, 3999, m);
        int inA = often(a, 3999, 0);
        int all = inA + often(b, 3999, 0);
        int great = has + often(b, 3999, m);
        BigInteger fits = BigInteger.ZERO;
        BigInteger deals = BigInteger.ZERO;
        if (all <= 12) {
            // every deal by itself: the first ones are the great ones, the bits are those that come to A
            for (int deal = 0; deal < 1 << all; deal++) {
                if (Integer.bitCount(deal) != inA) continue;
                deals = deals.add(BigInteger.ONE);
                if (Integer.bitCount(deal & (1 << great) - 1) >= has) fits = fits.add(BigInteger.ONE);
            }
            return part(fits, deals, part);
        }
        for (int come = 0; come <= inA; come++) {
            BigInteger ways = choose(great, come).multiply(choose(all - great, inA - come));
            deals = deals.add(ways);
            if (come >= has) fits = fits.add(ways);
        }
        return part(fits, deals, part);
    }

    long few(int all, int n, int w, int t, int part) {
        if (!in(all, 1, 8) || !in(t, 2, 100) || !in(w, 1, t - 1) || !in(part, 0, 1)) return LOST + OUTSIDE;
        // which of the quakes fall in, set by set
        BigInteger fits = BigInteger.ZERO;
        for (int set = 0; set < 1 << all; set++) {
            int many = Integer.bitCount(set);
            if (many <= n) fits = fits.add(big(w).pow(many).multiply(big(t - w).pow(all - many)));
        }
        return part(fits, big(t).pow(all), part);
    }

    int step(int what, int step, int v) {
        if (!in(what, 0, 2) || !in(step, 0, what == 0 ? 9 : 7) || !in(v, 0, 100)) return OUTSIDE;
        int was = steps[what][step];
        steps[what][step] = v;
        return was;
    }

    private long weight(Quake from, int x, int y, int day) {
        int[] ends = {0, 1, 3, 7, 15, 31, 63};
        int fade = 0;
        while (fade < 7 && day - from.day > ends[fade]) fade++;
        int spread = far(x, y, from.x, from.y);
        return (long) steps[0][from.greatness / 10] * steps[1][fade] * steps[2][spread > 7 ? 7 : spread];
    }

    private List<Quake> ahead(Quake j, int known) {
        List<Quake> all = counted(-1, known);
        return all.subList(0, all.indexOf(j));
    }

    private long allWeights(Quake j, int known) {
        long sum = settings[3];
        for (Quake i : ahead(j, known)) sum += weight(i, j.x, j.y, j.day);
        return sum;
    }

    long share(int j, int i, int known, int part) {
        if (!has(j) || i != -1 && !has(i)) return LOST + UNKNOWN;
        if (!day(known) || !in(part, 0, 1)) return LOST + OUTSIDE;
        Quake daughter = quakes.get(j);
        if (!counted(-1, known).contains(daughter)) return LOST + STATE;
        long weight = settings[3];
        if (i >= 0) {
            Quake from = quakes.get(i);
            weight = ahead(daughter, known).contains(from) ? weight(from, daughter.x, daughter.y, daughter.day) : 0;
        }
        return part(big(weight), big(allWeights(daughter, known)), part);
    }

    private Quake motherOf(Quake j, int known) {
        Quake best = null;
        for (Quake i : ahead(j, known)) {
            long most = best == null ? settings[3] : weight(best, j.x, j.y, j.day);
            if (weight(i, j.x, j.y, j.day) > most) best = i;
        }
        return best;
    }

    private int refused(int j, int known, boolean restFits) {
        if (!has(j)) return UNKNOWN;
        if (!day(known) || !restFits) return OUTSIDE;
        return counted(-1, known).contains(quakes.get(j)) ? 0 : STATE;
    }

    int mother(int j, int known) {
        int refused = refused(j, known, true);
        if (refused != 0) return refused;
        Quake mother = motherOf(quakes.get(j), known);
        return mother == null ? NONE : mother.number;
    }

    private Quake firstOf(Quake j, int known) {
        Quake mother = motherOf(j, known);
        return mother == null ? j : firstOf(mother, known);
    }

    private int depth(Quake j, int known) {
        Quake mother = motherOf(j, known);
        return mother == null ? 0 : 1 + depth(mother, known);
    }

    int family(int j, int known, int what) {
        int refused = refused(j, known, in(what, 0, 3));
        if (refused != 0) return refused;
        Quake first = firstOf(quakes.get(j), known);
        if (what == 0) return first.number;
        if (what == 3) return depth(quakes.get(j), known);
        int many = 0;
        int deepest = 0;
        for (Quake q : counted(-1, known)) {
            if (firstOf(q, known) != first) continue;
            many++;
            deepest = Math.max(deepest, depth(q, known));
        }
        return what == 1 ? many : deepest;
    }

    int families(int known, int i) {
        if (!day(known)) return OUTSIDE;
        List<Quake> firsts = counted(-1, known);
        firsts.removeIf(q -> motherOf(q, known) != null);
        if (i == -1) return firsts.size();
        return in(i, 0, firsts.size() - 1) ? firsts.get(i).number : NONE;
    }

    int draw(int seed, int j, int known) {
        int refused = refused(j, known, in(seed, 1, 1000000));
        if (refused != 0) return refused;
        BigInteger state = big(seed);
        for (Quake q : counted(-1, known)) {
            state = state.multiply(big(16807)).mod(big(2147483647L));
            List<Integer> owners = new ArrayList<>();
            List<Long> ends = new ArrayList<>();
            long end = settings[3];
            owners.add(NONE);
            ends.add(end);
            for (Quake i : ahead(q, known)) {
                end += weight(i, q.x, q.y, q.day);
                owners.add(i.number);
                ends.add(end);
            }
            long lot = state.mod(big(end)).longValueExact();
            int place = 0;
            while (ends.get(place) <= lot) place++;
            if (q.number == j) return owners.get(place);
        }
        throw new IllegalStateException("a counted quake is always drawn");
    }

    int rate(int x, int y, int day, int known) {
        if (!cell(x, y)) return UNKNOWN;
        if (!day(day) || !day(known)) return OUTSIDE;
        long sum = settings[3];
        for (Quake q : counted(-1, known)) {
            if (q.day < day) sum += weight(q, x, y, day);
        }
        return (int) sum;
    }

    int say(int sign) {
        if (!in(sign, 33, 126)) return OUTSIDE;
        if (signs.length() == 48) return FULL;
        signs += (char) sign;
        return signs.length();
    }

    int wipe() {
        int were = signs.length();
        signs = "";
        return were;
    }

    int fault() {
        for (int end = 1; end <= signs.length(); end++) {
            Matcher matcher = TEXT.matcher(signs.substring(0, end));
            if (!matcher.matches() && !matcher.hitEnd()) return end - 1;
        }
        return TEXT.matcher(signs).matches() ? NONE : signs.length();
    }

    int forecast() {
        if (forecasts.size() == 6) return FULL;
        if (fault() != NONE) return NO;
        forecasts.add(signs);
        signs = "";
        return forecasts.size() - 1;
    }

    private int telling(String forecast, int day) {
        Matcher rules = RULE.matcher(forecast);
        while (rules.find()) {
            int d = Integer.parseInt(rules.group(1));
            int m = Integer.parseInt(rules.group(2));
            int many = 0;
            for (Quake q : counted(-1, day - 1)) {
                if (q.greatness >= m && q.day >= day - d && q.day <= day - 1) many++;
            }
            if (many > Integer.parseInt(rules.group(3))) return Math.min(1000, Integer.parseInt(rules.group(4)));
        }
        Matcher text = TEXT.matcher(forecast);
        if (!text.matches()) throw new IllegalStateException(forecast);
        return Math.min(1000, Integer.parseInt(text.group(1)));
    }

    int tells(int f, int day) {
        if (!in(f, 0, forecasts.size() - 1)) return UNKNOWN;
        return day(day) ? telling(forecasts.get(f), day) : OUTSIDE;
    }

    long score(int f, int m, int from, int to) {
        if (!in(f, 0, forecasts.size() - 1)) return LOST + UNKNOWN;
        if (!in(m, 0, 90) || !day(from) || !day(to) || from > to) return LOST + OUTSIDE;
        long sum = 0;
        for (int day = from; day <= to; day++) {
            long off = telling(forecasts.get(f), day) - due(day, m);
            sum += off * off;
        }
        return sum;
    }

    private int due(int day, int m) {
        for (Quake q : quakes) {
            if (!q.blast && q.day == day && q.greatness >= m) return 1000;
        }
        return 0;
    }

    long mixed(int f, int g, int w, int m, int from, int to) {
        if (!in(f, 0, forecasts.size() - 1) || !in(g, 0, forecasts.size() - 1)) return LOST + UNKNOWN;
        if (!in(w, 0, 10) || !in(m, 0, 90) || !day(from) || !day(to) || from > to) return LOST + OUTSIDE;
        long sum = 0;
        for (int day = from; day <= to; day++) {
            long told = (w * telling(forecasts.get(f), day) + (10 - w) * telling(forecasts.get(g), day)) / 10;
            sum += (told - due(day, m)) * (told - due(day, m));
        }
        return sum;
    }

    int best(int f, int g, int m, int from, int to) {
        long refused = mixed(f, g, 0, m, from, to);
        if (refused < 0) return (int) (refused - LOST);
        int best = 10;
        for (int w = 9; w >= 0; w--) {
            if (mixed(f, g, w, m, from, to) <= mixed(f, g, best, m, from, to)) best = w;
        }
        return best;
    }

    int house(int x, int y, int kind, int worth, int price) {
        if (!cell(x, y)) return UNKNOWN;
        if (!in(kind, 0, 2) || !in(worth, 0, 10000) || !in(price, 0, 100)) return OUTSIDE;
        if (houses.size() == 12) return FULL;
        House h = new House();
        h.x = x;
        h.y = y;
        h.kind = kind;
        h.worth = worth;
        h.price = price;
        houses.add(h);
        return houses.size() - 1;
    }

    int damage(int kind, int step, int v) {
        if (!in(kind, 0, 3) || !in(step, 0, 9) || !in(v, 0, 100)) return OUTSIDE;
        int was = damages[kind][step];
        damages[kind][step] = v;
        return was;
    }

    private int lossAt(int x, int y, int greatness, int strong) {
        int sum = 0;
        for (int i = 0; i < houses.size(); i++) {
            House h = houses.get(i);
            int shaking = greatness - settings[4] * far(x, y, h.x, h.y);
            int step = shaking < 0 ? 0 : shaking / 10;
            sum += h.worth * damages[(strong & 1 << i) != 0 ? 3 : h.kind][step] / 100;
        }
        return sum;
    }

    int loss(int quake) {
        if (!has(quake)) return UNKNOWN;
        Quake q = quakes.get(quake);
        return lossAt(q.x, q.y, q.greatness, 0);
    }

    int worst(int known, int what) {
        if (!day(known) || !in(what, 0, 1)) return OUTSIDE;
        Quake worst = null;
        for (Quake q : counted(-1, known)) {
            if (worst == null || loss(q.number) > loss(worst.number)) worst = q;
        }
        if (worst == null) return what == 0 ? NONE : 0;
        return what == 0 ? worst.number : loss(worst.number);
    }

    int law(int x, int y, int greatness, int often) {
        if (!cell(x, y)) return UNKNOWN;
        if (!in(greatness, 0, 90) || !in(often, 1, 1000)) return OUTSIDE;
        if (laws.size() == 12) return FULL;
        Law law = new Law();
        law.x = x;
        law.y = y;
        law.greatness = greatness;
        law.often = often;
        laws.add(law);
        return laws.size();
    }

    int curve(int l) {
        if (!in(l, 0, 1000000)) return OUTSIDE;
        int sum = 0;
        for (Law law : laws) {
            if (lossAt(law.x, law.y, law.greatness, 0) > l) sum += law.often;
        }
        return sum;
    }

    long mean(int strong) {
        if (!in(strong, 0, (1L << houses.size()) - 1)) return LOST + OUTSIDE;
        long sum = 0;
        for (Law law : laws) sum += (long) law.often * lossAt(law.x, law.y, law.greatness, strong);
        return sum;
    }

    private int priceOf(int strong) {
        int sum = 0;
        for (int i = 0; i < houses.size(); i++) {
            if ((strong >> i & 1) == 1) sum += houses.get(i).price;
        }
        return sum;
    }

    int strengthen(int purse) {
        if (!in(purse, 0, 500)) return OUTSIDE;
        int best = 0;
        long least = mean(0);
        for (int strong = 1; strong < 1 << houses.size(); strong++) {
            int price = priceOf(strong);
            if (price > purse) continue;
            long mean = mean(strong);
            if (mean < least || mean == least && price < priceOf(best)) {
                best = strong;
                least = mean;
            }
        }
        return best;
    }

    int told(int what) {
        int blasts = (int) quakes.stream().filter(q -> q.blast).count();
        int[] all = {quakes.size(), signs.length(), forecasts.size(), houses.size(), laws.size(), blasts};
        if (in(what, 0, 5)) return all[what];
        return in(what, 10, 14) ? settings[what - 10] : OUTSIDE;
    }
}
