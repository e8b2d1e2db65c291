/** Promises 8 to 12: what is counted, whole from, slope, alike, few. */
public final class CountsTest {
    private static final Due DUE = new Due("CountsTest");
    private static final long UNKNOWN = QuakeLists.LOST - 1, OUTSIDE = QuakeLists.LOST - 2, STATE = QuakeLists.LOST - 3;

    public static void main(String[] args) {
        often();
        whole();
        slope();
        alike();
        alikeOfMany();
        few();
        DUE.end();
    }

    private static void due(String call, long got, long want) {
        DUE.due(call, got, want);
    }

    private static void often() {
        QuakeLists x = new QuakeLists();
        x.quake(0, 1, 0, 0, 30, 5);
        x.quake(0, 2, 0, 0, 90, 2);
        x.quake(2, 2, 0, 0, 0, 3999);
        due("told on day 5", x.often(0, 5, 30), 2);
        due("not told by day 4", x.often(0, 4, 30), 1);
        due("m or more", x.often(0, 5, 31), 1);
        due("m 90", x.often(0, 5, 90), 1);
        due("m 0, all lists, last day", x.often(-1, 3999, 0), 3);
        due("all lists, day 3998", x.often(-1, 3998, 0), 2);
        due("list 1", x.often(1, 3999, 0), 0);
        x.blast(1, true);
        due("without the blast", x.often(-1, 3999, 0), 2);
        due("list -2", x.often(-2, 0, 0), QuakeLists.UNKNOWN);
        due("list 3, and outside", x.often(3, -1, 91), QuakeLists.UNKNOWN);
        due("known -1", x.often(0, -1, 0), QuakeLists.OUTSIDE);
        due("known 4000", x.often(0, 4000, 0), QuakeLists.OUTSIDE);
        due("m -1", x.often(0, 0, -1), QuakeLists.OUTSIDE);
        due("m 91", x.often(0, 0, 91), QuakeLists.OUTSIDE);
    }

    private static void whole() {
        QuakeLists x = new QuakeLists();
        due("whole of none", x.whole(0, 3999), QuakeLists.NONE);
        x.quake(0, 1, 0, 0, 90, 1);
        due("whole 90", x.whole(0, 3999), 90);
        x.quake(0, 1, 0, 0, 0, 7);
        due("whole 0, the least of two", x.whole(0, 3999), 0);
        due("whole as known on day 6", x.whole(0, 6), 90);
        x.quake(1, 1, 0, 0, 90, 1);
        due("whole of all", x.whole(-1, 3999), 90);
        due("whole of list 0", x.whole(0, 3999), 0);
        x.blast(2, true);
        due("whole without the blast", x.whole(-1, 3999), 0);
        due("whole of blasts alone", x.whole(1, 3999), QuakeLists.NONE);
        due("whole -2", x.whole(-2, 4000), QuakeLists.UNKNOWN);
        due("whole 3", x.whole(3, 0), QuakeLists.UNKNOWN);
        due("whole known 4000", x.whole(0, 4000), QuakeLists.OUTSIDE);
        due("whole known -1", x.whole(0, -1), QuakeLists.OUTSIDE);
    }

    private static void slope() {
        QuakeLists x = new QuakeLists();
        due("slope of none", x.slope(0, 0, 0, 0), STATE);
        x.quake(0, 1, 0, 0, 30, 1);
        due("slope with no rest, upper", x.slope(0, 1, 30, 0), 2);
        due("slope with no rest, lower", x.slope(0, 1, 30, 1), 1);
        due("2 by 1 + 60, lower", x.slope(0, 1, 0, 1), 61);
        x.quake(1, 1, 0, 0, 35, 9);
        x.quake(1, 1, 0, 0, 25, 1);
        due("2 * 2 by 2 + 2 * 5, upper", x.slope(-1, 9, 30, 0), 1);
        due("2 * 2 by 2 + 2 * 5, lower", x.slope(-1, 9, 30, 1), 3);
        due("as known on day 8", x.slope(-1, 8, 30, 1), 1);
        due("none so great", x.slope(-1, 9, 36, 0), STATE);
        x.blast(0, true);
        due("2 by 1 + 10, lower", x.slope(-1, 9, 30, 1), 11);
        due("slope -2", x.slope(-2, -1, 91, 2), UNKNOWN);
        due("slope 3", x.slope(3, 0, 0, 0), UNKNOWN);
        due("known -1", x.slope(2, -1, 0, 0), OUTSIDE);
        due("known 4000", x.slope(2, 4000, 0, 0), OUTSIDE);
        due("m -1", x.slope(2, 0, -1, 0), OUTSIDE);
        due("m 91", x.slope(2, 0, 91, 0), OUTSIDE);
        due("part -1", x.slope(2, 0, 0, -1), OUTSIDE);
        due("part 2", x.slope(2, 0, 0, 2), OUTSIDE);
        due("none in list 2", x.slope(2, 0, 0, 1), STATE);
    }

    private static void alike() {
        QuakeLists x = new QuakeLists();
        due("nothing dealt, upper", x.alike(0, 1, 0, 0), 1);
        due("nothing dealt, lower", x.alike(0, 1, 0, 1), 1);
        x.quake(0, 1, 0, 0, 50, 3999);
        x.quake(0, 1, 0, 0, 20, 1);
        x.quake(1, 1, 0, 0, 10, 1);
        x.quake(1, 1, 0, 0, 10, 1);
        due("the one great one of four comes to A, upper", x.alike(0, 1, 50, 0), 1);
        due("the one great one of four comes to A, lower", x.alike(0, 1, 50, 1), 2);
        due("B has none of it", x.alike(1, 0, 50, 1), 1);
        due("both of 20 or more come to A, upper", x.alike(0, 1, 20, 0), 1);
        due("both of 20 or more come to A, lower", x.alike(0, 1, 20, 1), 6);
        due("all are so great", x.alike(0, 1, 0, 1), 1);
        due("none is so great", x.alike(0, 1, 90, 0), 1);
        x.blast(1, true);
        due("without the blast, upper", x.alike(0, 1, 50, 0), 1);
        due("without the blast, lower", x.alike(0, 1, 50, 1), 3);
        x.blast(1, false);
        x.mend(2, 50);
        due("one of two great ones or both come to A, upper", x.alike(0, 1, 50, 0), 5);
        due("one of two great ones or both come to A, lower", x.alike(0, 1, 50, 1), 6);
        x.mend(1, 0);
        x.mend(3, 0);
        due("greatness 0 is dealt, too, upper", x.alike(0, 1, 50, 0), 5);
        due("greatness 0 is dealt, too, lower", x.alike(0, 1, 50, 1), 6);
        due("one list", x.alike(1, 1, 91, 2), UNKNOWN);
        due("all lists", x.alike(-1, 1, 0, 0), UNKNOWN);
        due("list 3", x.alike(0, 3, 0, 0), UNKNOWN);
        due("m 91", x.alike(0, 1, 91, 0), OUTSIDE);
        due("m -1", x.alike(0, 1, -1, 0), OUTSIDE);
        due("part 2", x.alike(0, 1, 0, 2), OUTSIDE);
        due("part -1", x.alike(0, 1, 0, -1), OUTSIDE);
    }

    /** 20 and 20, all great ones in A: one deal of 40 over 20, which is 137846528820. */
    private static void alikeOfMany() {
        QuakeLists x = new QuakeLists();
        for (int i = 0; i < 40; i++) {
            x.quake(i % 2, 1, 0, 0, i % 2 == 0 ? 60 : 10, 1);
        }
        due("one deal, upper", x.alike(0, 1, 60, 0), 1);
        due("one deal, lower", x.alike(0, 1, 60, 1), 137846528820L);
        due("any deal", x.alike(1, 0, 60, 1), 1);
    }

    private static void few() {
        QuakeLists x = new QuakeLists();
        due("half, upper", x.few(1, 0, 1, 2, 0), 1);
        due("half, lower", x.few(1, 0, 1, 2, 1), 2);
        due("2 of 3 or fewer, upper", x.few(3, 2, 1, 2, 0), 7);
        due("2 of 3 or fewer, lower", x.few(3, 2, 1, 2, 1), 8);
        due("none of 8 in 99 of 100", x.few(8, 0, 99, 100, 0), 1);
        due("1 of 8 in 99 of 100 or fewer, upper", x.few(8, 1, 99, 100, 0), 793);
        due("1 of 8 in 99 of 100 or fewer, lower", x.few(8, 1, 99, 100, 1), 10000000000000000L);
        due("all, upper", x.few(8, 8, 1, 100, 0), 1);
        due("all, lower", x.few(8, 8, 1, 100, 1), 1);
        due("more than all", x.few(8, Integer.MAX_VALUE, 1, 100, 1), 1);
        due("below 0, upper", x.few(8, -1, 1, 100, 0), 0);
        due("below 0, lower", x.few(8, Integer.MIN_VALUE, 1, 100, 1), 1);
        due("all 0", x.few(0, 0, 1, 2, 0), OUTSIDE);
        due("all 9", x.few(9, 0, 1, 2, 0), OUTSIDE);
        due("w 0", x.few(1, 0, 0, 2, 0), OUTSIDE);
        due("w t", x.few(1, 0, 2, 2, 0), OUTSIDE);
        due("t 1", x.few(1, 0, 1, 1, 0), OUTSIDE);
        due("t 101", x.few(1, 0, 1, 101, 0), OUTSIDE);
        due("t least", x.few(1, 0, 1, Integer.MIN_VALUE, 0), OUTSIDE);
        due("part 2", x.few(1, 0, 1, 2, 2), OUTSIDE);
        due("part -1", x.few(1, 0, 1, 2, -1), OUTSIDE);
    }
}
