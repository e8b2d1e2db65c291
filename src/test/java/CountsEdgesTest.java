/** Section 2 and promises 8 to 12, sentence by sentence: each that names an edge has a test of its own. */
public final class CountsEdgesTest {
    private static final int UNKNOWN = QuakeLists.UNKNOWN, OUTSIDE = QuakeLists.OUTSIDE, NONE = QuakeLists.NONE;
    private static final long LOST = QuakeLists.LOST;
    private static final Due DUE = new Due("CountsEdgesTest");

    public static void main(String[] args) {
        countedOfAListOrOfAll();
        countedOfFortyQuakes();
        wholeIsWhatMostHave();
        wholeIsTheLeastSuch();
        wholeOfNone();
        slopeOfThoseWithMOrMore();
        slopeInLowestTerms();
        slopeWithNone();
        slopeAtEnds();
        alikeOfThoseWithMOrMore();
        alikeAsManyOrMore();
        alikeWithEmptyLists();
        alikeKnownOnTheLastDay();
        alikeOfFortyQuakes();
        alikeAsksForListsThatDiffer();
        fewOfOneToEight();
        fewInTwoToHundredDays();
        fewIntoOneToAllButOne();
        fewBelowZeroNone();
        fewOfAllAndMore();
        fewInLowestTerms();
        fewOfGreatestNumbers();
        oftenRefuses();
        wholeRefuses();
        slopeRefuses();
        alikeRefuses();
        fewRefuses();
        partsAreZeroAndOne();
        DUE.end();
    }

    private static void due(String call, long got, long want) {
        DUE.due(call, got, want);
    }

    /** A quake that is told on its own day. */
    private static int add(QuakeLists x, int list, int greatness) {
        return x.quake(list, 5, 0, 0, greatness, 5);
    }

    private static void addAll(QuakeLists x, int list, int many, int greatness) {
        for (int i = 0; i < many; i++) {
            add(x, list, greatness);
        }
    }

    private static void fraction(String call, long upper, long lower, long wantUpper, long wantLower) {
        due(call + ", upper", upper, wantUpper);
        due(call + ", lower", lower, wantLower);
    }

    private static void slope(String call, QuakeLists x, int list, int m, long upper, long lower) {
        fraction(call, x.slope(list, 3999, m, 0), x.slope(list, 3999, m, 1), upper, lower);
    }

    private static void alike(String call, QuakeLists x, int a, int b, int m, long upper, long lower) {
        fraction(call, x.alike(a, b, m, 0), x.alike(a, b, m, 1), upper, lower);
    }

    private static void few(int all, int n, int w, int t, long upper, long lower) {
        QuakeLists x = new QuakeLists();
        String call = "few " + all + " " + n + " " + w + " " + t;
        fraction(call, x.few(all, n, w, t, 0), x.few(all, n, w, t, 1), upper, lower);
    }

    private static void countedOfAListOrOfAll() {
        DUE.sentence("COUNTED are QUAKES that are no BLASTS, of a LIST (or of all: -1), KNOWN on a DAY");
        QuakeLists x = new QuakeLists();
        x.quake(0, 5, 0, 0, 10, 5);
        x.quake(1, 6, 0, 0, 20, 7);
        x.quake(1, 6, 0, 0, 20, 8);
        x.quake(2, 7, 0, 0, 30, 7);
        due("list 0", x.often(0, 3999, 0), 1);
        due("list 1", x.often(1, 3999, 0), 2);
        due("list 2", x.often(2, 3999, 0), 1);
        due("all", x.often(-1, 3999, 0), 4);
        due("all on day 4", x.often(-1, 4, 0), 0);
        due("all on day 5", x.often(-1, 5, 0), 1);
        due("all on day 6", x.often(-1, 6, 0), 1);
        due("all on day 7", x.often(-1, 7, 0), 3);
        due("all on day 8", x.often(-1, 8, 0), 4);
        due("with 19", x.often(-1, 8, 19), 3);
        due("with 20", x.often(-1, 8, 20), 3);
        due("with 21", x.often(-1, 8, 21), 1);
        due("with 30", x.often(-1, 8, 30), 1);
        due("with 31", x.often(-1, 8, 31), 0);
        x.blast(1, true);
        due("without the blast", x.often(-1, 8, 0), 3);
        due("list 1 without the blast", x.often(1, 8, 0), 1);
    }

    private static void countedOfFortyQuakes() {
        QuakeLists x = new QuakeLists();
        for (int i = 0; i < 40; i++) {
            x.quake(2, i, 0, 0, 90 - i, i);
        }
        due("all forty", x.often(2, 3999, 0), 40);
        due("on day 0", x.often(2, 0, 0), 1);
        due("on day 38", x.often(2, 38, 0), 39);
        due("with 90", x.often(2, 3999, 90), 1);
        due("with 51", x.often(2, 3999, 51), 40);
        due("with 52", x.often(2, 3999, 52), 39);
    }

    private static void wholeIsWhatMostHave() {
        DUE.sentence("WHOLE FROM: the GREATNESS that most of them have");
        QuakeLists x = new QuakeLists();
        add(x, 0, 0);
        due("one of 0", x.whole(0, 5), 0);
        addAll(x, 0, 2, 90);
        due("two of 90", x.whole(0, 5), 90);
        addAll(x, 1, 2, 0);
        due("list 0 alone", x.whole(0, 5), 90);
        due("three of 0 in all", x.whole(-1, 5), 0);
        x.blast(3, true);
        x.blast(4, true);
        due("blasts count nothing", x.whole(-1, 5), 90);
        x.mend(1, 0);
        due("put right", x.whole(0, 5), 0);
    }

    private static void wholeIsTheLeastSuch() {
        DUE.sentence("the least such");
        QuakeLists x = new QuakeLists();
        add(x, 0, 90);
        add(x, 0, 45);
        due("one of each", x.whole(0, 5), 45);
        add(x, 0, 0);
        due("one of each, 0 too", x.whole(0, 5), 0);
        addAll(x, 0, 1, 90);
        addAll(x, 0, 1, 45);
        due("two of 45, two of 90", x.whole(0, 5), 45);
        addAll(x, 0, 1, 90);
        due("three of 90", x.whole(0, 5), 90);
    }

    private static void wholeOfNone() {
        DUE.sentence("WHOLE FROM; NONE: none is COUNTED");
        QuakeLists x = new QuakeLists();
        due("no quakes", x.whole(-1, 3999), NONE);
        x.quake(0, 5, 0, 0, 10, 9);
        due("of another list", x.whole(1, 3999), NONE);
        due("not yet known", x.whole(0, 8), NONE);
        due("known", x.whole(0, 9), 10);
        x.blast(0, true);
        due("a blast", x.whole(0, 9), NONE);
    }

    private static void slopeOfThoseWithMOrMore() {
        DUE.sentence("SLOPE from m: n of them with m or more: 2 n by (n and twice the sum of GREATNESS less m)");
        QuakeLists x = new QuakeLists();
        add(x, 0, 30);
        slope("one of m alone", x, 0, 30, 2, 1);
        slope("one of m and 1", x, 0, 29, 2, 3);
        add(x, 0, 29);
        slope("what is below m does not count", x, 0, 30, 2, 1);
        slope("two: 4 by 2 and 2", x, 0, 29, 1, 1);
        slope("two: 4 by 2 and 118", x, 0, 0, 1, 30);
        add(x, 1, 36);
        slope("of all: 4 by 2 and 12", x, -1, 30, 2, 7);
        slope("of list 1: 2 by 1 and 12", x, 1, 30, 2, 13);
    }

    private static void slopeInLowestTerms() {
        DUE.sentence("in lowest terms");
        QuakeLists x = new QuakeLists();
        addAll(x, 0, 40, 90);
        slope("80 by 40 and 7200", x, 0, 0, 2, 181);
        slope("80 by 40", x, 0, 90, 2, 1);
        slope("80 by 40 and 80", x, 0, 89, 2, 3);
        x.blast(0, true);
        x.mend(1, 89);
        slope("76 by 38, one has less", x, 0, 90, 2, 1);
        slope("78 by 39 and 76", x, 0, 89, 78, 115);
    }

    private static void slopeWithNone() {
        DUE.sentence("STATE: none has m or more (LOST less 3)");
        QuakeLists x = new QuakeLists();
        due("no quakes", x.slope(0, 3999, 0, 0), LOST - 3);
        due("no quakes of all", x.slope(-1, 3999, 0, 1), LOST - 3);
        x.quake(0, 5, 0, 0, 30, 9);
        due("one below m", x.slope(0, 3999, 31, 0), LOST - 3);
        due("one of m", x.slope(0, 3999, 30, 0), 2);
        due("not yet known", x.slope(0, 8, 30, 0), LOST - 3);
        due("of another list", x.slope(1, 3999, 30, 0), LOST - 3);
        x.blast(0, true);
        due("a blast", x.slope(0, 3999, 30, 0), LOST - 3);
    }

    private static void slopeAtEnds() {
        DUE.sentence("GREATNESS (0 to 90)");
        QuakeLists x = new QuakeLists();
        add(x, 0, 90);
        slope("m 90", x, 0, 90, 2, 1);
        slope("m 0", x, 0, 0, 2, 181);
        x.mend(0, 0);
        slope("m 0 of 0", x, 0, 0, 2, 1);
    }

    private static void alikeOfThoseWithMOrMore() {
        DUE.sentence("ALIKE at m: of A's and B's COUNTED together so many have m or more");
        QuakeLists x = new QuakeLists();
        add(x, 0, 50);
        add(x, 1, 49);
        alike("only A's has 50", x, 0, 1, 50, 1, 2);
        alike("both have 49", x, 0, 1, 49, 1, 1);
        alike("none has 51", x, 0, 1, 51, 1, 1);
        add(x, 2, 50);
        alike("the third list does not count", x, 0, 1, 50, 1, 2);
        x.quake(1, 5, 0, 0, 0, 5);
        x.blast(3, true);
        alike("a blast does not count", x, 0, 1, 50, 1, 2);
        x.blast(3, false);
        alike("one of three", x, 0, 1, 50, 1, 3);
    }

    /** A has 2 of 3 great ones, B 1 of 3: 9 + 1 of 20 deals give A two or three. */
    private static void alikeAsManyOrMore() {
        DUE.sentence("the odds that .. as many as A's has it or more come to A");
        QuakeLists x = new QuakeLists();
        addAll(x, 0, 2, 60);
        addAll(x, 0, 1, 10);
        addAll(x, 1, 1, 60);
        addAll(x, 1, 2, 10);
        alike("two or three", x, 0, 1, 60, 1, 2);
        alike("one, two or three", x, 1, 0, 60, 19, 20);
        x.mend(2, 60);
        alike("three of four: 4 of 20", x, 0, 1, 60, 1, 5);
        alike("one of four or more: all, as only two are no great ones", x, 1, 0, 60, 1, 1);
        x.mend(3, 10);
        alike("all three: 1 of 20", x, 0, 1, 60, 1, 20);
        alike("none or more", x, 1, 0, 60, 1, 1);
    }

    private static void alikeWithEmptyLists() {
        DUE.sentence("all of these being dealt to A and B by chance");
        QuakeLists x = new QuakeLists();
        alike("both empty", x, 0, 1, 0, 1, 1);
        add(x, 0, 50);
        alike("B empty", x, 0, 1, 50, 1, 1);
        alike("A empty", x, 1, 0, 50, 1, 1);
        alike("both empty still", x, 1, 2, 90, 1, 1);
    }

    private static void alikeKnownOnTheLastDay() {
        DUE.sentence("(All KNOWN on the last DAY.)");
        QuakeLists x = new QuakeLists();
        x.quake(0, 0, 0, 0, 50, 3999);
        x.quake(1, 3999, 0, 0, 10, 3999);
        alike("told on the last day", x, 0, 1, 50, 1, 2);
    }

    private static void alikeOfFortyQuakes() {
        QuakeLists x = new QuakeLists();
        addAll(x, 0, 20, 90);
        addAll(x, 1, 20, 89);
        alike("20 of 20: one deal", x, 0, 1, 90, 1, 137846528820L);
        alike("all of them", x, 0, 1, 89, 1, 1);
        x.mend(0, 0);
        x.mend(39, 90);
        // 20 great ones: 19 or 20 of them to A: 20 * 20 + 1
        alike("19 or 20", x, 0, 1, 90, 401, 137846528820L);
        QuakeLists y = new QuakeLists();
        addAll(y, 0, 39, 10);
        addAll(y, 1, 1, 20);
        alike("39 and 1, B has the great one", y, 1, 0, 20, 1, 40);
        alike("39 and 1, A has none", y, 0, 1, 20, 1, 1);
        alike("39 and 1, A has all of 10", y, 0, 1, 10, 1, 1);
    }

    private static void alikeAsksForListsThatDiffer() {
        DUE.sentence("UNKNOWN: LISTS 0 to 2, they are one");
        QuakeLists x = new QuakeLists();
        for (int a = -1; a <= 3; a++) {
            for (int b = -1; b <= 3; b++) {
                boolean fits = a >= 0 && a <= 2 && b >= 0 && b <= 2 && a != b;
                due("alike " + a + " " + b, x.alike(a, b, 0, 0), fits ? 1 : LOST - 1);
            }
        }
    }

    private static void fewOfOneToEight() {
        DUE.sentence("FEW: of N QUAKES (1 to 8)");
        few(1, 0, 1, 2, 1, 2);
        few(8, 0, 1, 2, 1, 256);
        few(8, 7, 1, 2, 255, 256);
        QuakeLists x = new QuakeLists();
        due("0", x.few(0, 0, 1, 2, 0), LOST - 2);
        due("9", x.few(9, 0, 1, 2, 0), LOST - 2);
    }

    private static void fewInTwoToHundredDays() {
        DUE.sentence("in T DAYS (2 to 100)");
        few(1, 0, 1, 2, 1, 2);
        few(1, 0, 1, 100, 99, 100);
        QuakeLists x = new QuakeLists();
        due("1", x.few(1, 0, 1, 1, 0), LOST - 2);
        due("101", x.few(1, 0, 1, 101, 0), LOST - 2);
    }

    private static void fewIntoOneToAllButOne() {
        DUE.sentence("fall into W of these (1 to T less 1)");
        few(2, 0, 1, 3, 4, 9);
        few(2, 0, 2, 3, 1, 9);
        few(1, 0, 99, 100, 1, 100);
        QuakeLists x = new QuakeLists();
        due("0 of 3", x.few(2, 0, 0, 3, 0), LOST - 2);
        due("3 of 3", x.few(2, 0, 3, 3, 0), LOST - 2);
        due("4 of 3", x.few(2, 0, 4, 3, 0), LOST - 2);
        due("100 of 100", x.few(2, 0, 100, 100, 0), LOST - 2);
        due("2 of 2", x.few(2, 0, 2, 2, 0), LOST - 2);
    }

    private static void fewBelowZeroNone() {
        DUE.sentence("the odds that n or fewer (n below 0: none)");
        few(3, -1, 1, 2, 0, 1);
        few(8, -1, 99, 100, 0, 1);
        few(1, Integer.MIN_VALUE, 1, 2, 0, 1);
        few(3, 0, 1, 2, 1, 8);
        few(3, 1, 1, 2, 1, 2);
        few(3, 2, 1, 2, 7, 8);
    }

    private static void fewOfAllAndMore() {
        DUE.sentence("n or fewer");
        few(3, 3, 1, 2, 1, 1);
        few(3, 4, 1, 2, 1, 1);
        few(8, 8, 50, 99, 1, 1);
        few(8, Integer.MAX_VALUE, 99, 100, 1, 1);
        few(1, 1, 1, 2, 1, 1);
    }

    private static void fewInLowestTerms() {
        DUE.sentence("in lowest terms (0 by 1 for none)");
        few(2, 0, 5, 10, 1, 4);
        few(2, 1, 5, 10, 3, 4);
        few(2, 0, 50, 100, 1, 4);
        few(2, -1, 5, 10, 0, 1);
    }

    private static void fewOfGreatestNumbers() {
        DUE.sentence("each on any DAY alike");
        few(8, 0, 99, 100, 1, 10000000000000000L);
        few(8, 0, 1, 100, 9227446944279201L, 10000000000000000L);
        // 100 to the 8th less 99 to the 8th
        few(8, 7, 99, 100, 772553055720799L, 10000000000000000L);
        few(8, 7, 1, 100, 9999999999999999L, 10000000000000000L);
    }

    private static void oftenRefuses() {
        DUE.sentence("How many are COUNTED with m (0 to 90) or more. UNKNOWN; OUTSIDE");
        QuakeLists x = new QuakeLists();
        add(x, 0, 90);
        due("list -2", x.often(-2, 5, 0), UNKNOWN);
        due("list 3", x.often(3, 5, 0), UNKNOWN);
        due("list 3, day -1, m 91", x.often(3, -1, 91), UNKNOWN);
        due("day -1", x.often(0, -1, 0), OUTSIDE);
        due("day 4000", x.often(0, 4000, 0), OUTSIDE);
        due("m -1", x.often(0, 5, -1), OUTSIDE);
        due("m 91", x.often(0, 5, 91), OUTSIDE);
        due("m 90", x.often(0, 5, 90), 1);
        due("m 0", x.often(0, 5, 0), 1);
        due("day 0", x.often(0, 0, 0), 0);
        due("day 3999", x.often(0, 3999, 0), 1);
    }

    private static void wholeRefuses() {
        DUE.sentence("WHOLE FROM .. UNKNOWN; OUTSIDE");
        QuakeLists x = new QuakeLists();
        due("list -2", x.whole(-2, 5), UNKNOWN);
        due("list 3", x.whole(3, 5), UNKNOWN);
        due("list 3, day 4000", x.whole(3, 4000), UNKNOWN);
        due("day -1", x.whole(0, -1), OUTSIDE);
        due("day 4000", x.whole(-1, 4000), OUTSIDE);
        due("day 0", x.whole(-1, 0), NONE);
        due("day 3999", x.whole(2, 3999), NONE);
    }

    private static void slopeRefuses() {
        DUE.sentence("SLOPE. UNKNOWN, OUTSIDE; STATE (LOST less 1, 2, 3)");
        QuakeLists x = new QuakeLists();
        add(x, 0, 40);
        due("list -2", x.slope(-2, 5, 0, 0), LOST - 1);
        due("list 3", x.slope(3, 5, 0, 0), LOST - 1);
        due("list 3, all else outside", x.slope(3, 4000, 91, 2), LOST - 1);
        due("day -1", x.slope(0, -1, 0, 0), LOST - 2);
        due("day 4000", x.slope(0, 4000, 0, 0), LOST - 2);
        due("m -1", x.slope(0, 5, -1, 0), LOST - 2);
        due("m 91", x.slope(0, 5, 91, 0), LOST - 2);
        due("part -1", x.slope(0, 5, 0, -1), LOST - 2);
        due("part 2", x.slope(0, 5, 0, 2), LOST - 2);
        due("none so great, part 2", x.slope(0, 5, 41, 2), LOST - 2);
        due("none so great", x.slope(0, 5, 41, 1), LOST - 3);
    }

    private static void alikeRefuses() {
        DUE.sentence("ALIKE .. OUTSIDE (LOST less 1, 2)");
        QuakeLists x = new QuakeLists();
        due("m -1", x.alike(0, 1, -1, 0), LOST - 2);
        due("m 91", x.alike(0, 1, 91, 0), LOST - 2);
        due("m 0", x.alike(0, 1, 0, 0), 1);
        due("m 90", x.alike(0, 1, 90, 0), 1);
        due("part -1", x.alike(0, 1, 0, -1), LOST - 2);
        due("part 2", x.alike(0, 1, 0, 2), LOST - 2);
        due("one list, m 91, part 2", x.alike(2, 2, 91, 2), LOST - 1);
        due("all lists", x.alike(-1, 1, 0, 0), LOST - 1);
    }

    private static void fewRefuses() {
        DUE.sentence("FEW. OUTSIDE (LOST less 2)");
        QuakeLists x = new QuakeLists();
        due("part -1", x.few(1, 0, 1, 2, -1), LOST - 2);
        due("part 2", x.few(1, 0, 1, 2, 2), LOST - 2);
        due("t as small as can be", x.few(1, 0, 1, Integer.MIN_VALUE, 0), LOST - 2);
        due("w as small as can be", x.few(1, 0, Integer.MIN_VALUE, 2, 0), LOST - 2);
        due("w as great as can be", x.few(1, 0, Integer.MAX_VALUE, 100, 0), LOST - 2);
        due("n below 0 is no way round", x.few(0, -1, 1, 2, 0), LOST - 2);
    }

    private static void partsAreZeroAndOne() {
        DUE.sentence("fractions are told by part: 0 the upper, 1 the lower number");
        QuakeLists x = new QuakeLists();
        add(x, 0, 41);
        due("slope, upper", x.slope(0, 5, 40, 0), 2);
        due("slope, lower", x.slope(0, 5, 40, 1), 3);
        due("few, upper", x.few(1, 0, 1, 3, 0), 2);
        due("few, lower", x.few(1, 0, 1, 3, 1), 3);
        due("share, upper", x.share(0, -1, 5, 0), 1);
        due("share, lower", x.share(0, 0, 5, 1), 1);
    }
}
