import java.util.Arrays;
import java.util.List;

/** Every number of every call: the last that is taken and the first that is refused, on both sides. */
public final class BoundsTest {
    private static final int U = QuakeLists.UNKNOWN, O = QuakeLists.OUTSIDE;
    private static final Due DUE = new Due("BoundsTest");

    public static void main(String[] args) {
        lists();
        counts();
        mothers();
        forecasts();
        ground();
        anyNumberWillDo();
        DUE.end();
    }

    private static Asked ask(String call, int... arguments) {
        return new Asked(call, arguments);
    }

    private static void lists() {
        Asked quake = ask("quake", 1, 100, 3, 3, 40, 3999);
        bound(quake, 0, 0, 2, U);
        bound(quake, 1, 0, 3999, O);
        bound(quake, 2, 0, 15, U);
        bound(quake, 3, 0, 15, U);
        bound(quake, 4, 0, 90, O);
        bound(quake, 5, 100, 3999, O);
        bound(ask("quake", 1, 100, 3, 3, 40, 100), 1, 0, 100, O);
        bound(ask("quake", 1, 0, 3, 3, 40, 0), 5, 0, 3999, O);
        bound(ask("quake", 1, 3999, 3, 3, 40, 3999), 5, 3999, 3999, O);
        bound(ask("blast", 0, 1), 0, 0, 4, U);
        bound(ask("mend", 0, 5), 0, 0, 4, U);
        bound(ask("mend", 0, 5), 1, 0, 90, O);
        bound(ask("about", 0, 0), 0, 0, 4, U);
        bound(ask("about", 0, 0), 1, 0, 7, O);
        bound(ask("set", 0, 1), 0, 0, 4, O);
        bound(ask("set", 0, 1), 1, 0, 10, O);
        bound(ask("set", 1, 1), 1, 0, 5, O);
        bound(ask("set", 2, 1), 1, 0, 20, O);
        bound(ask("set", 3, 1), 1, 1, 100000, O);
        bound(ask("set", 4, 1), 1, 0, 20, O);
        bound(ask("join", 2, 1, -1), 1, 0, 1, U);
        bound(ask("join", 0, 1, -1), 1, 1, 2, U);
        bound(ask("join", 1, 2, -1), 0, 0, 1, U);
        bound(ask("join", 1, 0, -1), 0, 1, 2, U);
        bound(ask("join", 0, 1, -1), 2, -2, 0, U);
    }

    private static void counts() {
        bound(ask("often", 0, 50, 30), 0, -1, 2, U);
        bound(ask("often", 0, 50, 30), 1, 0, 3999, O);
        bound(ask("often", 0, 50, 30), 2, 0, 90, O);
        bound(ask("whole", 0, 50), 0, -1, 2, U);
        bound(ask("whole", 0, 50), 1, 0, 3999, O);
        bound(ask("slope", 0, 50, 30, 0), 3, 0, 1, O);
        refused(ask("slope", -2, 50, 30, 0), U);
        refused(ask("slope", 3, 50, 30, 0), U);
        taken(ask("slope", -1, 50, 30, 0));
        refused(ask("slope", 0, -1, 30, 0), O);
        refused(ask("slope", 0, 4000, 30, 0), O);
        taken(ask("slope", 0, 3999, 0, 0));
        refused(ask("slope", 0, 50, -1, 0), O);
        refused(ask("slope", 0, 50, 91, 0), O);
        // day 0 and greatness 90 are as told, only there is none then
        refused(ask("slope", 0, 0, 30, 0), QuakeLists.STATE);
        refused(ask("slope", 0, 50, 90, 0), QuakeLists.STATE);
        bound(ask("alike", 2, 1, 30, 0), 1, 0, 1, U);
        bound(ask("alike", 0, 1, 30, 0), 1, 1, 2, U);
        bound(ask("alike", 1, 2, 30, 0), 0, 0, 1, U);
        bound(ask("alike", 1, 0, 30, 0), 0, 1, 2, U);
        bound(ask("alike", 0, 1, 30, 0), 2, 0, 90, O);
        bound(ask("alike", 0, 1, 30, 0), 3, 0, 1, O);
        bound(ask("few", 3, 1, 10, 50, 0), 0, 1, 8, O);
        bound(ask("few", 3, 1, 10, 50, 0), 2, 1, 49, O);
        bound(ask("few", 3, 1, 1, 2, 0), 2, 1, 1, O);
        bound(ask("few", 3, 1, 1, 100, 0), 2, 1, 99, O);
        bound(ask("few", 3, 1, 1, 50, 0), 3, 2, 100, O);
        bound(ask("few", 3, 1, 40, 50, 0), 3, 41, 100, O);
        bound(ask("few", 3, 1, 10, 50, 0), 4, 0, 1, O);
    }

    private static void mothers() {
        bound(ask("step", 0, 0, 5), 0, 0, 2, O);
        bound(ask("step", 0, 9, 5), 0, 0, 0, O);
        bound(ask("step", 1, 7, 5), 0, 0, 2, O);
        bound(ask("step", 0, 0, 5), 1, 0, 9, O);
        bound(ask("step", 1, 0, 5), 1, 0, 7, O);
        bound(ask("step", 2, 0, 5), 1, 0, 7, O);
        for (int what = 0; what < 3; what++) {
            bound(ask("step", what, 0, 5), 2, 0, 100, O);
        }
        // quake 3 is a blast, so the ends are asked one by one
        for (int j : new int[] {0, 4}) {
            taken(ask("share", j, -1, 50, 0));
            taken(ask("mother", j, 50));
            taken(ask("family", j, 50, 0));
            taken(ask("draw", 1, j, 50));
        }
        for (int j : new int[] {-1, 5, Integer.MIN_VALUE, Integer.MAX_VALUE}) {
            refused(ask("share", j, -1, 50, 0), U);
            refused(ask("mother", j, 50), U);
            refused(ask("family", j, 50, 0), U);
            refused(ask("draw", 1, j, 50), U);
        }
        bound(ask("share", 4, 0, 50, 0), 1, -1, 4, U);
        bound(ask("share", 4, 0, 50, 0), 2, 41, 3999, QuakeLists.STATE, O);
        bound(ask("share", 4, 0, 50, 0), 3, 0, 1, O);
        bound(ask("mother", 4, 50), 1, 41, 3999, QuakeLists.STATE, O);
        bound(ask("family", 4, 50, 0), 1, 41, 3999, QuakeLists.STATE, O);
        bound(ask("family", 4, 50, 0), 2, 0, 3, O);
        bound(ask("families", 50, 0), 0, 0, 3999, O);
        bound(ask("draw", 1, 4, 50), 0, 1, 1000000, O);
        bound(ask("draw", 1, 4, 50), 2, 41, 3999, QuakeLists.STATE, O);
        bound(ask("rate", 3, 3, 50, 50), 0, 0, 15, U);
        bound(ask("rate", 3, 3, 50, 50), 1, 0, 15, U);
        bound(ask("rate", 3, 3, 50, 50), 2, 0, 3999, O);
        bound(ask("rate", 3, 3, 50, 50), 3, 0, 3999, O);
    }

    private static void forecasts() {
        bound(ask("say", 50), 0, 33, 126, O);
        bound(ask("tells", 0, 50), 0, 0, 1, U);
        bound(ask("tells", 0, 50), 1, 0, 3999, O);
        bound(ask("score", 0, 30, 5, 9), 0, 0, 1, U);
        bound(ask("score", 0, 30, 5, 9), 1, 0, 90, O);
        bound(ask("score", 0, 30, 5, 9), 2, 0, 9, O);
        bound(ask("score", 0, 30, 5, 3999), 2, 0, 3999, O);
        bound(ask("score", 0, 30, 5, 9), 3, 5, 3999, O);
        bound(ask("score", 0, 30, 0, 9), 3, 0, 3999, O);
        bound(ask("mixed", 0, 1, 5, 30, 5, 9), 0, 0, 1, U);
        bound(ask("mixed", 0, 1, 5, 30, 5, 9), 1, 0, 1, U);
        bound(ask("mixed", 0, 1, 5, 30, 5, 9), 2, 0, 10, O);
        bound(ask("mixed", 0, 1, 5, 30, 5, 9), 3, 0, 90, O);
        bound(ask("mixed", 0, 1, 5, 30, 5, 9), 4, 0, 9, O);
        bound(ask("mixed", 0, 1, 5, 30, 5, 3999), 4, 0, 3999, O);
        bound(ask("mixed", 0, 1, 5, 30, 5, 9), 5, 5, 3999, O);
        bound(ask("best", 0, 1, 30, 5, 9), 0, 0, 1, U);
        bound(ask("best", 0, 1, 30, 5, 9), 1, 0, 1, U);
        bound(ask("best", 0, 1, 30, 5, 9), 2, 0, 90, O);
        bound(ask("best", 0, 1, 30, 5, 9), 3, 0, 9, O);
        bound(ask("best", 0, 1, 30, 5, 3999), 3, 0, 3999, O);
        bound(ask("best", 0, 1, 30, 5, 9), 4, 5, 3999, O);
    }

    private static void ground() {
        bound(ask("house", 3, 3, 1, 5, 5), 0, 0, 15, U);
        bound(ask("house", 3, 3, 1, 5, 5), 1, 0, 15, U);
        bound(ask("house", 3, 3, 1, 5, 5), 2, 0, 2, O);
        bound(ask("house", 3, 3, 1, 5, 5), 3, 0, 10000, O);
        bound(ask("house", 3, 3, 1, 5, 5), 4, 0, 100, O);
        bound(ask("damage", 1, 5, 5), 0, 0, 3, O);
        bound(ask("damage", 1, 5, 5), 1, 0, 9, O);
        bound(ask("damage", 1, 5, 5), 2, 0, 100, O);
        bound(ask("loss", 0), 0, 0, 4, U);
        bound(ask("worst", 50, 0), 0, 0, 3999, O);
        bound(ask("worst", 50, 0), 1, 0, 1, O);
        bound(ask("law", 3, 3, 50, 5), 0, 0, 15, U);
        bound(ask("law", 3, 3, 50, 5), 1, 0, 15, U);
        bound(ask("law", 3, 3, 50, 5), 2, 0, 90, O);
        bound(ask("law", 3, 3, 50, 5), 3, 1, 1000, O);
        bound(ask("curve", 5), 0, 0, 1000000, O);
        bound(ask("mean", 5), 0, 0, 7, O);
        bound(ask("strengthen", 5), 0, 0, 500, O);
        bound(ask("told", 0), 0, 0, 5, O);
        bound(ask("told", 10), 0, 10, 14, O);
    }

    /** n of few, and i of families: the document names no end of them. */
    private static void anyNumberWillDo() {
        for (int any : new int[] {Integer.MIN_VALUE, -2, -1, 0, 1, 8, 9, Integer.MAX_VALUE}) {
            taken(ask("few", 3, any, 10, 50, 0));
            taken(ask("families", 50, any));
        }
    }

    private static void bound(Asked asked, int place, int least, int most, int refusal) {
        bound(asked, place, least, most, refusal, refusal);
    }

    /** Below and above the ends; below they may be refused by another word than above. */
    private static void bound(Asked asked, int place, int least, int most, int below, int above) {
        taken(asked.with(place, least));
        taken(asked.with(place, most));
        refused(asked.with(place, least - 1), below);
        refused(asked.with(place, most + 1), above);
        refused(asked.with(place, Integer.MIN_VALUE), below == QuakeLists.STATE ? O : below);
        refused(asked.with(place, Integer.MAX_VALUE), above);
    }

    private static void taken(Asked asked) {
        long answer = asked.of(Sample.SOME.make());
        DUE.yes(asked + " is taken: " + answer, Asked.isTaken(answer));
    }

    private static final long[] UNCHANGED = Sample.SOME.answersAfter(List.of());

    private static void refused(Asked asked, int refusal) {
        DUE.due(asked.toString(), asked.of(Sample.SOME.make()), asked.refusal(refusal));
        DUE.yes(asked + " changes nothing", Arrays.equals(UNCHANGED, Sample.SOME.answersAfter(List.of(asked))));
    }
}
