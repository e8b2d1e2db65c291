/** Lists of quakes, joined, counted, traced to mothers, forecast and turned into losses. */
public final class QuakeLists {
    public static final int UNKNOWN = -1, OUTSIDE = -2, STATE = -3, FULL = -4, NO = -5, NONE = -6;
    public static final long LOST = -1000000000000000000L;

    private static final int LAST_DAY = 3999;
    private static final int LAST_CELL = 15;
    private static final int MOST_GREATNESS = 90;
    private static final int LAST_LIST = 2;
    private static final int ALL_LISTS = -1;
    private static final int MOST_FORECASTS = 6;
    private static final int FIRST_SIGN = 33;
    private static final int LAST_SIGN = 126;
    private static final int MOST_MIX = 10;

    private static final int SET_DAYS = 0, SET_FAR = 1, SET_TENTHS = 2, SET_CALM = 3, SET_FALL = 4;
    private static final int[] SET_LEAST = {0, 0, 0, 1, 0};
    private static final int[] SET_MOST = {10, 5, 20, 100000, 20};

    private final int[] settings;
    private final Quakes quakes;
    private final Joining joining;
    private final Counts counts;
    private final Mothers mothers;
    private final Signs signs;
    private final Forecast[] forecasts;
    private int forecastCount;
    private final Scores scores;
    private final Ground ground;

    public QuakeLists() {
        settings = new int[] {1, 1, 5, 100, 5};
        quakes = new Quakes();
        joining = new Joining();
        counts = new Counts();
        mothers = new Mothers();
        signs = new Signs();
        forecasts = new Forecast[MOST_FORECASTS];
        forecastCount = 0;
        scores = new Scores();
        ground = new Ground();
    }

    // ---- 1 lists

    public int quake(int list, int day, int x, int y, int greatness, int told) {
        if (!isList(list) || !isCell(x, y)) {
            return UNKNOWN;
        }
        if (!isDay(day) || !isGreatness(greatness) || !isDay(told) || told < day) {
            return OUTSIDE;
        }
        if (quakes.isFull()) {
            return FULL;
        }
        return quakes.add(list, day, x, y, greatness, told);
    }

    public int blast(int quake, boolean is) {
        if (!quakes.has(quake)) {
            return UNKNOWN;
        }
        boolean was = quakes.isBlast[quake];
        quakes.isBlast[quake] = is;
        return asNumber(was);
    }

    public int mend(int quake, int greatness) {
        if (!quakes.has(quake)) {
            return UNKNOWN;
        }
        if (!isGreatness(greatness)) {
            return OUTSIDE;
        }
        int was = quakes.greatness[quake];
        quakes.greatness[quake] = greatness;
        return was;
    }

    public int about(int quake, int what) {
        if (!quakes.has(quake)) {
            return UNKNOWN;
        }
        switch (what) {
            case 0: return quakes.list[quake];
            case 1: return quakes.day[quake];
            case 2: return quakes.x[quake];
            case 3: return quakes.y[quake];
            case 4: return quakes.greatness[quake];
            case 5: return quakes.toldOn[quake];
            case 6: return asNumber(quakes.isBlast[quake]);
            case 7: return quakes.placeOf(quake);
            default: return OUTSIDE;
        }
    }

    public int set(int which, int v) {
        if (!within(which, SET_DAYS, SET_FALL) || !within(v, SET_LEAST[which], SET_MOST[which])) {
            return OUTSIDE;
        }
        int was = settings[which];
        settings[which] = v;
        return was;
    }

    public int join(int a, int b, int i) {
        if (!isList(a) || !isList(b) || a == b) {
            return UNKNOWN;
        }
        boolean ofAll = i == -1 || i == -2;
        if (!ofAll && !(quakes.has(i) && quakes.list[i] == a)) {
            return UNKNOWN;
        }
        if (quakes.howManyIn(a) > Joining.MOST || quakes.howManyIn(b) > Joining.MOST) {
            return NO;
        }
        joining.pairUp(quakes, a, b, settings[SET_DAYS], settings[SET_FAR], settings[SET_TENTHS]);
        if (i == -1) {
            return joining.pairs;
        }
        return i == -2 ? joining.missInAll : joining.partnerOf(i);
    }

    // ---- 2 counts

    public int often(int list, int known, int m) {
        if (!isListOrAll(list)) {
            return UNKNOWN;
        }
        if (!isDay(known) || !isGreatness(m)) {
            return OUTSIDE;
        }
        return counts.howMany(quakes, list, known, m);
    }

    public int whole(int list, int known) {
        if (!isListOrAll(list)) {
            return UNKNOWN;
        }
        if (!isDay(known)) {
            return OUTSIDE;
        }
        return counts.commonest(quakes, list, known);
    }

    public long slope(int list, int known, int m, int part) {
        if (!isListOrAll(list)) {
            return LOST + UNKNOWN;
        }
        if (!isDay(known) || !isGreatness(m) || !isPart(part)) {
            return LOST + OUTSIDE;
        }
        int n = counts.howMany(quakes, list, known, m);
        if (n == 0) {
            return LOST + STATE;
        }
        int above = counts.sumAbove(quakes, list, known, m);
        return Odds.partOf(2L * n, n + 2L * above, part);
    }

    public long alike(int a, int b, int m, int part) {
        if (!isList(a) || !isList(b) || a == b) {
            return LOST + UNKNOWN;
        }
        if (!isGreatness(m) || !isPart(part)) {
            return LOST + OUTSIDE;
        }
        int inA = counts.howMany(quakes, a, LAST_DAY, 0);
        int inB = counts.howMany(quakes, b, LAST_DAY, 0);
        int greatInA = counts.howMany(quakes, a, LAST_DAY, m);
        int greatInB = counts.howMany(quakes, b, LAST_DAY, m);
        long ways = Odds.waysToDeal(inA, inB, greatInA + greatInB, greatInA);
        return Odds.partOf(ways, Odds.choose(inA + inB, inA), part);
    }

    public long few(int all, int n, int w, int t, int part) {
        if (!within(all, 1, 8) || !within(t, 2, 100) || !within(w, 1, t - 1) || !isPart(part)) {
            return LOST + OUTSIDE;
        }
        return Odds.partOf(Odds.waysForFew(all, n, w, t), Odds.power(t, all), part);
    }

    // ---- 3 mothers

    public int step(int what, int step, int v) {
        int[] row = mothers.stepsOf(what);
        if (row == null || !within(step, 0, row.length - 1) || !within(v, 0, 100)) {
            return OUTSIDE;
        }
        int was = row[step];
        row[step] = v;
        return was;
    }

    public long share(int j, int i, int known, int part) {
        if (!quakes.has(j) || !(i == -1 || quakes.has(i))) {
            return LOST + UNKNOWN;
        }
        if (!isDay(known) || !isPart(part)) {
            return LOST + OUTSIDE;
        }
        if (!quakes.isCounted(j, ALL_LISTS, known)) {
            return LOST + STATE;
        }
        int calm = settings[SET_CALM];
        int weight = i == -1 ? calm : mothers.weightIfAhead(quakes, j, i, known);
        return Odds.partOf(weight, mothers.allWeights(quakes, j, known, calm), part);
    }

    public int mother(int j, int known) {
        int refusal = refusalOfDaughter(j, known, true);
        if (refusal != 0) {
            return refusal;
        }
        return mothers.likeliest(quakes, j, known, settings[SET_CALM]);
    }

    public int family(int j, int known, int what) {
        int refusal = refusalOfDaughter(j, known, within(what, 0, 3));
        if (refusal != 0) {
            return refusal;
        }
        mothers.trace(quakes, known, settings[SET_CALM]);
        int first = mothers.firstOf[j];
        switch (what) {
            case 0: return first;
            case 1: return mothers.sizeOfFamily(quakes, first);
            case 2: return mothers.deepestOfFamily(quakes, first);
            default: return mothers.depthOf[j];
        }
    }

    public int families(int known, int i) {
        if (!isDay(known)) {
            return OUTSIDE;
        }
        mothers.trace(quakes, known, settings[SET_CALM]);
        return i == -1 ? mothers.howManyFirst(quakes) : mothers.firstAt(quakes, i);
    }

    public int draw(int seed, int j, int known) {
        int refusal = refusalOfDaughter(j, known, within(seed, 1, 1000000));
        if (refusal != 0) {
            return refusal;
        }
        return mothers.drawn(quakes, seed, j, known, settings[SET_CALM]);
    }

    public int rate(int x, int y, int day, int known) {
        if (!isCell(x, y)) {
            return UNKNOWN;
        }
        if (!isDay(day) || !isDay(known)) {
            return OUTSIDE;
        }
        return settings[SET_CALM] + mothers.weightOn(quakes, x, y, day, known);
    }

    // ---- 4 forecasts

    public int say(int sign) {
        if (!within(sign, FIRST_SIGN, LAST_SIGN)) {
            return OUTSIDE;
        }
        if (signs.isFull()) {
            return FULL;
        }
        return signs.add(sign);
    }

    public int wipe() {
        int were = signs.count;
        signs.count = 0;
        return were;
    }

    public int fault() {
        return signs.faultyPlace();
    }

    public int forecast() {
        if (forecastCount >= MOST_FORECASTS) {
            return FULL;
        }
        if (signs.faultyPlace() != NONE) {
            return NO;
        }
        forecasts[forecastCount] = signs.read();
        signs.count = 0;
        forecastCount++;
        return forecastCount - 1;
    }

    public int tells(int f, int day) {
        Forecast forecast = forecastOf(f);
        if (forecast == null) {
            return UNKNOWN;
        }
        return isDay(day) ? forecast.toldFor(quakes, day) : OUTSIDE;
    }

    public long score(int f, int m, int from, int to) {
        return scoreOfMix(f, f, MOST_MIX, m, from, to);
    }

    public long mixed(int f, int g, int w, int m, int from, int to) {
        return scoreOfMix(f, g, w, m, from, to);
    }

    public int best(int f, int g, int m, int from, int to) {
        long score = scoreOfMix(f, g, MOST_MIX, m, from, to);
        return score < 0 ? (int) (score - LOST) : scores.leastMix();
    }

    // ---- 5 ground

    public int house(int x, int y, int kind, int worth, int price) {
        if (!isCell(x, y)) {
            return UNKNOWN;
        }
        if (!within(kind, 0, 2) || !within(worth, 0, 10000) || !within(price, 0, 100)) {
            return OUTSIDE;
        }
        if (ground.houses >= Ground.MOST) {
            return FULL;
        }
        return ground.build(x, y, kind, worth, price);
    }

    public int damage(int kind, int step, int v) {
        if (!within(kind, 0, Ground.STRENGTHENED) || !within(step, 0, 9) || !within(v, 0, 100)) {
            return OUTSIDE;
        }
        int was = ground.damages[kind][step];
        ground.damages[kind][step] = v;
        return was;
    }

    public int loss(int quake) {
        if (!quakes.has(quake)) {
            return UNKNOWN;
        }
        return ground.lossByQuake(quakes, quake, settings[SET_FALL]);
    }

    public int worst(int known, int what) {
        if (!isDay(known) || !within(what, 0, 1)) {
            return OUTSIDE;
        }
        int worst = ground.worstQuake(quakes, known, settings[SET_FALL]);
        if (what == 0) {
            return worst;
        }
        return quakes.has(worst) ? ground.lossByQuake(quakes, worst, settings[SET_FALL]) : 0;
    }

    public int law(int x, int y, int greatness, int often) {
        if (!isCell(x, y)) {
            return UNKNOWN;
        }
        if (!isGreatness(greatness) || !within(often, 1, 1000)) {
            return OUTSIDE;
        }
        if (ground.laws >= Ground.MOST) {
            return FULL;
        }
        return ground.enact(x, y, greatness, often);
    }

    public int curve(int l) {
        if (!within(l, 0, 1000000)) {
            return OUTSIDE;
        }
        return ground.howOftenAbove(l, settings[SET_FALL]);
    }

    public long mean(int houses) {
        if (!within(houses, 0, (1 << ground.houses) - 1)) {
            return LOST + OUTSIDE;
        }
        return ground.meanLoss(houses, settings[SET_FALL]);
    }

    public int strengthen(int purse) {
        if (!within(purse, 0, Ground.MOST_PURSE)) {
            return OUTSIDE;
        }
        return ground.bestHouses(purse, settings[SET_FALL]);
    }

    public int told(int what) {
        switch (what) {
            case 0: return quakes.count;
            case 1: return signs.count;
            case 2: return forecastCount;
            case 3: return ground.houses;
            case 4: return ground.laws;
            case 5: return quakes.howManyBlasts();
            default: return within(what, 10, 10 + SET_FALL) ? settings[what - 10] : OUTSIDE;
        }
    }

    // ---- what several calls ask

    private static boolean within(int v, int least, int most) {
        return v >= least && v <= most;
    }

    private static boolean isList(int list) {
        return within(list, 0, LAST_LIST);
    }

    private static boolean isListOrAll(int list) {
        return list == ALL_LISTS || isList(list);
    }

    private static boolean isDay(int day) {
        return within(day, 0, LAST_DAY);
    }

    private static boolean isStretch(int from, int to) {
        return isDay(from) && isDay(to) && from <= to;
    }

    private static boolean isCell(int x, int y) {
        return within(x, 0, LAST_CELL) && within(y, 0, LAST_CELL);
    }

    private static boolean isGreatness(int greatness) {
        return within(greatness, 0, MOST_GREATNESS);
    }

    private static boolean isPart(int part) {
        return within(part, 0, 1);
    }

    private static int asNumber(boolean is) {
        return is ? 1 : 0;
    }

    private static int howFar(int x, int y, int otherX, int otherY) {
        return Math.max(Math.abs(x - otherX), Math.abs(y - otherY));
    }

    /** The refusal that mother, family and draw have in common; 0 if there is none. */
    private int refusalOfDaughter(int j, int known, boolean restAsTold) {
        if (!quakes.has(j)) {
            return UNKNOWN;
        }
        if (!isDay(known) || !restAsTold) {
            return OUTSIDE;
        }
        return quakes.isCounted(j, ALL_LISTS, known) ? 0 : STATE;
    }

    private Forecast forecastOf(int f) {
        return within(f, 0, forecastCount - 1) ? forecasts[f] : null;
    }

    /** Scores of every other mixture are worked on the way: best reads them. */
    private long scoreOfMix(int f, int g, int w, int m, int from, int to) {
        Forecast first = forecastOf(f);
        Forecast second = forecastOf(g);
        if (first == null || second == null) {
            return LOST + UNKNOWN;
        }
        if (!within(w, 0, MOST_MIX) || !isGreatness(m) || !isStretch(from, to)) {
            return LOST + OUTSIDE;
        }
        scores.work(quakes, first, second, m, from, to);
        return scores.sums[w];
    }

    /** The quakes of all lists by number, and their order. */
    private static final class Quakes {
        private static final int MOST = 40;

        private int count = 0;
        private final int[] list = new int[MOST];
        private final int[] day = new int[MOST];
        private final int[] x = new int[MOST];
        private final int[] y = new int[MOST];
        private final int[] greatness = new int[MOST];
        private final int[] toldOn = new int[MOST];
        private final boolean[] isBlast = new boolean[MOST];
        private final int[] order = new int[MOST];

        private boolean isFull() {
            return count >= MOST;
        }

        private boolean has(int quake) {
            return quake >= 0 && quake < count;
        }

        private int add(int ofList, int onDay, int atX, int atY, int size, int told) {
            int quake = count;
            list[quake] = ofList;
            day[quake] = onDay;
            x[quake] = atX;
            y[quake] = atY;
            greatness[quake] = size;
            toldOn[quake] = told;
            isBlast[quake] = false;
            putInOrder(quake);
            count++;
            return quake;
        }

        /** The newest has the greatest number, so it stands behind all of its own day. */
        private void putInOrder(int quake) {
            int place = quake;
            while (place > 0 && day[order[place - 1]] > day[quake]) {
                order[place] = order[place - 1];
                place--;
            }
            order[place] = quake;
        }

        private int placeOf(int quake) {
            int place = 0;
            while (place < count && order[place] != quake) {
                place++;
            }
            return place;
        }

        private boolean isCounted(int quake, int ofList, int known) {
            return !isBlast[quake] && toldOn[quake] <= known
                && (ofList == ALL_LISTS || list[quake] == ofList);
        }

        private boolean isGreat(int quake, int least) {
            return !isBlast[quake] && greatness[quake] >= least;
        }

        private boolean strikes(int onDay, int least) {
            for (int quake = 0; quake < count; quake++) {
                if (day[quake] == onDay && isGreat(quake, least)) {
                    return true;
                }
            }
            return false;
        }

        private int howManyIn(int ofList) {
            int many = 0;
            for (int quake = 0; quake < count; quake++) {
                if (list[quake] == ofList) {
                    many++;
                }
            }
            return many;
        }

        private int howManyBlasts() {
            int many = 0;
            for (int quake = 0; quake < count; quake++) {
                if (isBlast[quake]) {
                    many++;
                }
            }
            return many;
        }
    }

    /**
     * Pairs two lists. Pairs, miss and the order of partners are folded into one cost,
     * so that the cheapest way to give each quake of a one column is the pairing that is due:
     * a column is a quake of b, or one of as many columns for none as a has quakes.
     */
    private static final class Joining {
        private static final int MOST = 12;
        private static final int MOST_COLUMNS = 24;
        /** Partners as digits of base 13 (12 for none) lie below this: 13 to the 12th. */
        private static final long MISS_UNIT = 23298085122481L;
        /** Above the greatest miss of twelve pairs (420), so that a pair more always pays. */
        private static final long ALONE = 1000L * MISS_UNIT;
        /** Above the cost of all quakes alone, so that it is never chosen. */
        private static final long NEVER = 1000000000000000000L;
        private static final long ENDLESS = 4000000000000000000L;

        private int pairs = 0;
        private int missInAll = 0;
        private int rows = 0;
        private int partners = 0;
        private int columns = 0;
        private final int[] ofA = new int[MOST];
        private final int[] ofB = new int[MOST];
        private final long[][] cost = new long[MOST + 1][MOST_COLUMNS + 1];
        private final long[] rowPrice = new long[MOST + 1];
        private final long[] columnPrice = new long[MOST_COLUMNS + 1];
        private final long[] slack = new long[MOST_COLUMNS + 1];
        private final int[] rowOf = new int[MOST_COLUMNS + 1];
        private final int[] before = new int[MOST_COLUMNS + 1];
        private final boolean[] reached = new boolean[MOST_COLUMNS + 1];

        /** Both lists have at most MOST quakes. */
        private void pairUp(Quakes quakes, int a, int b, int days, int far, int tenths) {
            rows = gather(quakes, a, ofA);
            partners = gather(quakes, b, ofB);
            columns = partners + rows;
            fillCosts(quakes, days, far, tenths);
            clearPrices();
            for (int row = 1; row <= rows; row++) {
                placeRow(row);
            }
            sumUp(quakes);
        }

        private int partnerOf(int quake) {
            for (int column = 1; column <= partners; column++) {
                int row = rowOf[column];
                if (row > 0 && ofA[row - 1] == quake) {
                    return ofB[column - 1];
                }
            }
            return NONE;
        }

        private static int gather(Quakes quakes, int ofList, int[] into) {
            int many = 0;
            for (int quake = 0; quake < quakes.count && many < MOST; quake++) {
                if (quakes.list[quake] == ofList) {
                    into[many] = quake;
                    many++;
                }
            }
            return many;
        }

        private void fillCosts(Quakes quakes, int days, int far, int tenths) {
            long digit = MISS_UNIT;
            for (int row = 1; row <= rows; row++) {
                digit /= 13;
                int one = ofA[row - 1];
                for (int column = 1; column <= columns; column++) {
                    long price = ALONE + MOST * digit;
                    if (column <= partners) {
                        int other = ofB[column - 1];
                        boolean same = maySame(quakes, one, other, days, far, tenths);
                        price = same ? missOf(quakes, one, other) * MISS_UNIT + (column - 1) * digit : NEVER;
                    }
                    cost[row][column] = price;
                }
            }
        }

        private static boolean maySame(Quakes quakes, int one, int other, int days, int far, int tenths) {
            return daysApart(quakes, one, other) <= days
                && cellsApart(quakes, one, other) <= far
                && tenthsApart(quakes, one, other) <= tenths;
        }

        private static int missOf(Quakes quakes, int one, int other) {
            return daysApart(quakes, one, other) + cellsApart(quakes, one, other) + tenthsApart(quakes, one, other);
        }

        private static int daysApart(Quakes quakes, int one, int other) {
            return Math.abs(quakes.day[one] - quakes.day[other]);
        }

        private static int cellsApart(Quakes quakes, int one, int other) {
            return howFar(quakes.x[one], quakes.y[one], quakes.x[other], quakes.y[other]);
        }

        private static int tenthsApart(Quakes quakes, int one, int other) {
            return Math.abs(quakes.greatness[one] - quakes.greatness[other]);
        }

        private void clearPrices() {
            for (int row = 0; row <= rows; row++) {
                rowPrice[row] = 0;
            }
            for (int column = 0; column <= columns; column++) {
                columnPrice[column] = 0;
                rowOf[column] = 0;
            }
        }

        /** Column 0 stands for the row that seeks a place; paths are traced back to it. */
        private void placeRow(int row) {
            rowOf[0] = row;
            for (int column = 0; column <= columns; column++) {
                slack[column] = ENDLESS;
                reached[column] = false;
                before[column] = 0;
            }
            int at = 0;
            for (int turn = 0; turn <= columns && rowOf[at] != 0; turn++) {
                reached[at] = true;
                loosen(at);
                int next = nearest();
                reprice(slack[next]);
                at = next;
            }
            for (int turn = 0; turn <= columns && at != 0; turn++) {
                rowOf[at] = rowOf[before[at]];
                at = before[at];
            }
        }

        private void loosen(int at) {
            int row = rowOf[at];
            for (int column = 1; column <= columns; column++) {
                long rest = cost[row][column] - rowPrice[row] - columnPrice[column];
                if (!reached[column] && rest < slack[column]) {
                    slack[column] = rest;
                    before[column] = at;
                }
            }
        }

        /** There is always a column left: there are as many for none as rows. */
        private int nearest() {
            int nearest = 0;
            for (int column = 1; column <= columns; column++) {
                if (!reached[column] && (nearest == 0 || slack[column] < slack[nearest])) {
                    nearest = column;
                }
            }
            return nearest;
        }

        private void reprice(long by) {
            for (int column = 0; column <= columns; column++) {
                if (reached[column]) {
                    rowPrice[rowOf[column]] += by;
                    columnPrice[column] -= by;
                } else {
                    slack[column] -= by;
                }
            }
        }

        private void sumUp(Quakes quakes) {
            pairs = 0;
            missInAll = 0;
            for (int column = 1; column <= partners; column++) {
                int row = rowOf[column];
                if (row > 0) {
                    pairs++;
                    missInAll += missOf(quakes, ofA[row - 1], ofB[column - 1]);
                }
            }
        }
    }

    /** What is counted of a list, or of all. */
    private static final class Counts {
        private final int[] tally = new int[MOST_GREATNESS + 1];

        private int howMany(Quakes quakes, int list, int known, int m) {
            int many = 0;
            for (int quake = 0; quake < quakes.count; quake++) {
                if (quakes.isCounted(quake, list, known) && quakes.greatness[quake] >= m) {
                    many++;
                }
            }
            return many;
        }

        private int sumAbove(Quakes quakes, int list, int known, int m) {
            int sum = 0;
            for (int quake = 0; quake < quakes.count; quake++) {
                if (quakes.isCounted(quake, list, known) && quakes.greatness[quake] >= m) {
                    sum += quakes.greatness[quake] - m;
                }
            }
            return sum;
        }

        private int commonest(Quakes quakes, int list, int known) {
            for (int greatness = 0; greatness <= MOST_GREATNESS; greatness++) {
                tally[greatness] = 0;
            }
            for (int quake = 0; quake < quakes.count; quake++) {
                if (quakes.isCounted(quake, list, known)) {
                    tally[quakes.greatness[quake]]++;
                }
            }
            int commonest = NONE;
            int most = 0;
            for (int greatness = 0; greatness <= MOST_GREATNESS; greatness++) {
                if (tally[greatness] > most) {
                    most = tally[greatness];
                    commonest = greatness;
                }
            }
            return commonest;
        }
    }

    /** Ways to choose and to deal, and fractions in lowest terms. */
    private static final class Odds {
        /** Both are 0 or more; a lower one of 0 stands for no fraction at all. */
        private static long partOf(long upper, long lower, int part) {
            long divisor = greatestDivisor(upper, lower);
            if (upper == 0 || divisor == 0) {
                return part == 0 ? 0 : 1;
            }
            return part == 0 ? upper / divisor : lower / divisor;
        }

        /** A hundred steps are more than numbers of 63 bits can need. */
        private static long greatestDivisor(long one, long other) {
            long a = one;
            long b = other;
            for (int turn = 0; turn < 100 && b != 0; turn++) {
                long rest = a % b;
                a = b;
                b = rest;
            }
            return a;
        }

        private static long choose(int all, int some) {
            if (some < 0 || some > all) {
                return 0;
            }
            long ways = 1;
            for (int i = 1; i <= some; i++) {
                ways = ways * (all - some + i) / i;
            }
            return ways;
        }

        private static long power(int base, int times) {
            long power = 1;
            for (int i = 0; i < times; i++) {
                power *= base;
            }
            return power;
        }

        /** In how many ways inA of all come to A, so that it has at least so many great ones. */
        private static long waysToDeal(int inA, int inB, int great, int atLeast) {
            int small = inA + inB - great;
            long ways = 0;
            for (int i = atLeast; i <= great && i <= inA; i++) {
                ways += choose(great, i) * choose(small, inA - i);
            }
            return ways;
        }

        private static long waysForFew(int all, int n, int w, int t) {
            long ways = 0;
            for (int i = 0; i <= n && i <= all; i++) {
                ways += choose(all, i) * power(w, i) * power(t - w, all - i);
            }
            return ways;
        }
    }

    /** Weights between quakes, and what follows from them. */
    private static final class Mothers {
        private static final int LAST_STEP = 7;
        private static final long LOT_FACTOR = 16807L;
        private static final long LOT_MODULUS = 2147483647L;

        private final int[] produce = new int[10];
        private final int[] fade = new int[LAST_STEP + 1];
        private final int[] spread = new int[LAST_STEP + 1];
        /** Of the traced day: the first one of each quake's family, NONE if it is not counted. */
        private final int[] firstOf = new int[Quakes.MOST];
        private final int[] depthOf = new int[Quakes.MOST];

        private int[] stepsOf(int what) {
            switch (what) {
                case 0: return produce;
                case 1: return fade;
                case 2: return spread;
                default: return null;
            }
        }

        /** Days between double from step to step. */
        private static int fadeStep(int days) {
            int step = 0;
            for (int left = days; left > 0 && step < LAST_STEP; left /= 2) {
                step++;
            }
            return step;
        }

        private int weightAt(Quakes quakes, int i, int x, int y, int day) {
            int far = Math.min(LAST_STEP, howFar(x, y, quakes.x[i], quakes.y[i]));
            return produce[quakes.greatness[i] / 10] * fade[fadeStep(day - quakes.day[i])] * spread[far];
        }

        private int weight(Quakes quakes, int j, int i) {
            return weightAt(quakes, i, quakes.x[j], quakes.y[j], quakes.day[j]);
        }

        private int weightIfAhead(Quakes quakes, int j, int i, int known) {
            boolean mayBe = quakes.isCounted(i, ALL_LISTS, known) && quakes.placeOf(i) < quakes.placeOf(j);
            return mayBe ? weight(quakes, j, i) : 0;
        }

        private int allWeights(Quakes quakes, int j, int known, int calm) {
            int sum = calm;
            int places = quakes.placeOf(j);
            for (int place = 0; place < places; place++) {
                int i = quakes.order[place];
                if (quakes.isCounted(i, ALL_LISTS, known)) {
                    sum += weight(quakes, j, i);
                }
            }
            return sum;
        }

        private int weightOn(Quakes quakes, int x, int y, int day, int known) {
            int sum = 0;
            for (int i = 0; i < quakes.count; i++) {
                if (quakes.day[i] < day && quakes.isCounted(i, ALL_LISTS, known)) {
                    sum += weightAt(quakes, i, x, y, day);
                }
            }
            return sum;
        }

        private int likeliest(Quakes quakes, int j, int known, int calm) {
            int mother = NONE;
            int most = calm;
            int places = quakes.placeOf(j);
            for (int place = 0; place < places; place++) {
                int i = quakes.order[place];
                int weight = quakes.isCounted(i, ALL_LISTS, known) ? weight(quakes, j, i) : 0;
                if (weight > most) {
                    most = weight;
                    mother = i;
                }
            }
            return mother;
        }

        /** Mothers stand ahead in the order, so one walk along it finds every first one. */
        private void trace(Quakes quakes, int known, int calm) {
            for (int place = 0; place < quakes.count; place++) {
                int j = quakes.order[place];
                firstOf[j] = NONE;
                depthOf[j] = 0;
                if (quakes.isCounted(j, ALL_LISTS, known)) {
                    int mother = likeliest(quakes, j, known, calm);
                    firstOf[j] = mother == NONE ? j : firstOf[mother];
                    depthOf[j] = mother == NONE ? 0 : depthOf[mother] + 1;
                }
            }
        }

        private int sizeOfFamily(Quakes quakes, int first) {
            int size = 0;
            for (int j = 0; j < quakes.count; j++) {
                if (firstOf[j] == first) {
                    size++;
                }
            }
            return size;
        }

        private int deepestOfFamily(Quakes quakes, int first) {
            int deepest = 0;
            for (int j = 0; j < quakes.count; j++) {
                if (firstOf[j] == first) {
                    deepest = Math.max(deepest, depthOf[j]);
                }
            }
            return deepest;
        }

        private int howManyFirst(Quakes quakes) {
            int many = 0;
            for (int j = 0; j < quakes.count; j++) {
                if (firstOf[j] == j) {
                    many++;
                }
            }
            return many;
        }

        private int firstAt(Quakes quakes, int family) {
            int passed = 0;
            for (int place = 0; place < quakes.count; place++) {
                int j = quakes.order[place];
                if (firstOf[j] == j) {
                    if (passed == family) {
                        return j;
                    }
                    passed++;
                }
            }
            return NONE;
        }

        /** Lots of others do not change j's weights: only how often the seed has moved counts. */
        private int drawn(Quakes quakes, int seed, int j, int known, int calm) {
            long moved = seed;
            int places = quakes.placeOf(j);
            for (int place = 0; place <= places && place < quakes.count; place++) {
                if (quakes.isCounted(quakes.order[place], ALL_LISTS, known)) {
                    moved = moved * LOT_FACTOR % LOT_MODULUS;
                }
            }
            int all = allWeights(quakes, j, known, calm);
            long lot = all > 0 ? moved % all - calm : -1;
            for (int place = 0; place < places && lot >= 0; place++) {
                int i = quakes.order[place];
                lot -= quakes.isCounted(i, ALL_LISTS, known) ? weight(quakes, j, i) : 0;
                if (lot < 0) {
                    return i;
                }
            }
            return NONE;
        }
    }

    /** The signs said so far. */
    private static final class Signs {
        private static final int MOST = 48;
        private static final int MOST_DIGITS = 4;
        private static final int NUMBERS_OF_RULE = 4;
        /** What ends the numbers of a rule: d, m, n, p. */
        private static final char[] ENDS = {',', '>', ':', ';'};

        private int count = 0;
        private final int[] sign = new int[MOST];

        private boolean isFull() {
            return count >= MOST;
        }

        private int add(int next) {
            sign[count] = next;
            count++;
            return count;
        }

        private static boolean isDigit(int sign) {
            return sign >= '0' && sign <= '9';
        }

        /** The last number starts like a rule's days, so the text may end only there. */
        private int faultyPlace() {
            int number = 0;
            int digits = 0;
            for (int place = 0; place < count; place++) {
                boolean goesOn = isDigit(sign[place]) && digits < MOST_DIGITS;
                boolean ends = digits > 0 && sign[place] == ENDS[number];
                if (!goesOn && !ends) {
                    return place;
                }
                digits = ends ? 0 : digits + 1;
                number = ends ? (number + 1) % NUMBERS_OF_RULE : number;
            }
            return number == 0 && digits > 0 ? NONE : count;
        }

        /** Only for signs without a fault. */
        private Forecast read() {
            Forecast forecast = new Forecast();
            int number = 0;
            int value = 0;
            for (int place = 0; place < count; place++) {
                if (isDigit(sign[place])) {
                    value = value * 10 + sign[place] - '0';
                } else {
                    forecast.take(number, value);
                    number = (number + 1) % NUMBERS_OF_RULE;
                    value = 0;
                }
            }
            forecast.last = value;
            return forecast;
        }
    }

    /** Rules, and what is told if none of them fits. */
    private static final class Forecast {
        /** A rule has at least eight signs, and one sign stands behind the rules. */
        private static final int MOST_RULES = 5;
        private static final int MOST_TOLD = 1000;

        private int rules = 0;
        private int last = 0;
        private final int[] days = new int[MOST_RULES];
        private final int[] least = new int[MOST_RULES];
        private final int[] more = new int[MOST_RULES];
        private final int[] chance = new int[MOST_RULES];

        /** Numbers of a rule come in turn: 0 d, 1 m, 2 n, 3 p, which completes it. */
        private void take(int number, int value) {
            if (rules >= MOST_RULES) {
                return;
            }
            switch (number) {
                case 0: days[rules] = value; break;
                case 1: least[rules] = value; break;
                case 2: more[rules] = value; break;
                default: chance[rules] = value; rules++; break;
            }
        }

        private int toldFor(Quakes quakes, int day) {
            for (int rule = 0; rule < rules; rule++) {
                if (howManyAhead(quakes, rule, day) > more[rule]) {
                    return Math.min(MOST_TOLD, chance[rule]);
                }
            }
            return Math.min(MOST_TOLD, last);
        }

        /** None is told ahead of its own day, so one told ahead of this day was ahead of it too. */
        private int howManyAhead(Quakes quakes, int rule, int day) {
            int many = 0;
            for (int quake = 0; quake < quakes.count; quake++) {
                if (quakes.isGreat(quake, least[rule]) && quakes.toldOn[quake] < day
                    && quakes.day[quake] >= day - days[rule]) {
                    many++;
                }
            }
            return many;
        }
    }

    /**
     * Scores of two forecasts in every mixture. What they tell changes on few days,
     * so these are marked first, and each stretch between them is worked once.
     */
    private static final class Scores {
        private static final int SURE = 1000;

        private final boolean[] turns = new boolean[LAST_DAY + 1];
        private final long[] sums = new long[MOST_MIX + 1];

        private void work(Quakes quakes, Forecast f, Forecast g, int m, int from, int to) {
            for (int w = 0; w <= MOST_MIX; w++) {
                sums[w] = 0;
            }
            markStrikes(quakes, m, from, to);
            markRules(quakes, f, from, to);
            markRules(quakes, g, from, to);
            int start = from;
            for (int day = from + 1; day <= to; day++) {
                if (turns[day]) {
                    turns[day] = false;
                    addStretch(quakes, f, g, m, start, day - start);
                    start = day;
                }
            }
            addStretch(quakes, f, g, m, start, to + 1 - start);
        }

        private int leastMix() {
            int least = 0;
            for (int w = 1; w <= MOST_MIX; w++) {
                if (sums[w] < sums[least]) {
                    least = w;
                }
            }
            return least;
        }

        /** The first day needs no mark: a stretch starts there anyway. */
        private void mark(int day, int from, int to) {
            if (day > from && day <= to) {
                turns[day] = true;
            }
        }

        private void markStrikes(Quakes quakes, int m, int from, int to) {
            for (int quake = 0; quake < quakes.count; quake++) {
                if (quakes.isGreat(quake, m)) {
                    mark(quakes.day[quake], from, to);
                    mark(quakes.day[quake] + 1, from, to);
                }
            }
        }

        /** A rule sees a quake from the day behind its telling to d days behind its own. */
        private void markRules(Quakes quakes, Forecast forecast, int from, int to) {
            for (int rule = 0; rule < forecast.rules; rule++) {
                for (int quake = 0; quake < quakes.count; quake++) {
                    if (quakes.isGreat(quake, forecast.least[rule])) {
                        mark(quakes.toldOn[quake] + 1, from, to);
                        mark(quakes.day[quake] + forecast.days[rule] + 1, from, to);
                    }
                }
            }
        }

        private void addStretch(Quakes quakes, Forecast f, Forecast g, int m, int start, int length) {
            int ofF = f.toldFor(quakes, start);
            int ofG = g.toldFor(quakes, start);
            int due = quakes.strikes(start, m) ? SURE : 0;
            for (int w = 0; w <= MOST_MIX; w++) {
                long off = (w * ofF + (MOST_MIX - w) * ofG) / MOST_MIX - due;
                sums[w] += length * off * off;
            }
        }
    }

    /** Houses, laws and what shaking does to houses. */
    private static final class Ground {
        private static final int MOST = 12;
        private static final int MOST_PURSE = 500;
        private static final int STRENGTHENED = 3;
        /** Sets of houses as bits lie below BIT_ROOM, prices in all below PRICE_ROOM. */
        private static final long BIT_ROOM = 4096L;
        private static final long PRICE_ROOM = 2048L;

        private int houses = 0;
        private final int[] houseX = new int[MOST];
        private final int[] houseY = new int[MOST];
        private final int[] kind = new int[MOST];
        private final int[] worth = new int[MOST];
        private final int[] price = new int[MOST];
        private final int[][] damages = new int[STRENGTHENED + 1][10];
        private int laws = 0;
        private final int[] lawX = new int[MOST];
        private final int[] lawY = new int[MOST];
        private final int[] lawGreatness = new int[MOST];
        private final int[] lawOften = new int[MOST];
        private final long[] gainFor = new long[MOST_PURSE + 1];

        private int build(int x, int y, int ofKind, int itsWorth, int itsPrice) {
            houseX[houses] = x;
            houseY[houses] = y;
            kind[houses] = ofKind;
            worth[houses] = itsWorth;
            price[houses] = itsPrice;
            houses++;
            return houses - 1;
        }

        private int enact(int x, int y, int greatness, int often) {
            lawX[laws] = x;
            lawY[laws] = y;
            lawGreatness[laws] = greatness;
            lawOften[laws] = often;
            laws++;
            return laws;
        }

        private int lossOfHouse(int house, int asKind, int x, int y, int greatness, int fall) {
            int shaking = Math.max(0, greatness - fall * howFar(x, y, houseX[house], houseY[house]));
            return worth[house] * damages[asKind][shaking / 10] / 100;
        }

        private int lossInAll(int x, int y, int greatness, int strong, int fall) {
            int sum = 0;
            for (int house = 0; house < houses; house++) {
                int asKind = (strong >> house & 1) == 1 ? STRENGTHENED : kind[house];
                sum += lossOfHouse(house, asKind, x, y, greatness, fall);
            }
            return sum;
        }

        private int lossByQuake(Quakes quakes, int quake, int fall) {
            return lossInAll(quakes.x[quake], quakes.y[quake], quakes.greatness[quake], 0, fall);
        }

        private int lossByLaw(int law, int strong, int fall) {
            return lossInAll(lawX[law], lawY[law], lawGreatness[law], strong, fall);
        }

        private int worstQuake(Quakes quakes, int known, int fall) {
            int worst = NONE;
            int most = -1;
            for (int place = 0; place < quakes.count; place++) {
                int quake = quakes.order[place];
                int loss = quakes.isCounted(quake, ALL_LISTS, known) ? lossByQuake(quakes, quake, fall) : -1;
                if (loss > most) {
                    most = loss;
                    worst = quake;
                }
            }
            return worst;
        }

        private int howOftenAbove(int l, int fall) {
            int sum = 0;
            for (int law = 0; law < laws; law++) {
                if (lossByLaw(law, 0, fall) > l) {
                    sum += lawOften[law];
                }
            }
            return sum;
        }

        private long meanLoss(int strong, int fall) {
            long sum = 0;
            for (int law = 0; law < laws; law++) {
                sum += (long) lawOften[law] * lossByLaw(law, strong, fall);
            }
            return sum;
        }

        /** By how much the mean falls if the house is strengthened: others do not change that. */
        private long gainOf(int house, int fall) {
            long gain = 0;
            for (int law = 0; law < laws; law++) {
                int now = lossOfHouse(house, kind[house], lawX[law], lawY[law], lawGreatness[law], fall);
                int then = lossOfHouse(house, STRENGTHENED, lawX[law], lawY[law], lawGreatness[law], fall);
                gain += (long) lawOften[law] * (now - then);
            }
            return gain;
        }

        /**
         * Gain, price and bits all add up over the houses of a set, so they are folded into
         * one number that tells sets apart, and the bits can be read from the greatest one.
         */
        private int bestHouses(int purse, int fall) {
            for (int money = 0; money <= purse; money++) {
                gainFor[money] = 0;
            }
            for (int house = 0; house < houses; house++) {
                long cost = price[house] * BIT_ROOM + (1L << house);
                long gain = gainOf(house, fall) * (PRICE_ROOM * BIT_ROOM) - cost;
                if (gain > 0) {
                    offer(price[house], gain, purse);
                }
            }
            return (int) Math.floorMod(-gainFor[purse], BIT_ROOM);
        }

        /** From the full purse down, so that no house is taken twice. */
        private void offer(int itsPrice, long gain, int purse) {
            for (int money = purse; money >= itsPrice; money--) {
                gainFor[money] = Math.max(gainFor[money], gainFor[money - itsPrice] + gain);
            }
        }
    }
}
