import java.util.ArrayList;
import java.util.Arrays;
import java.util.List;

/**
 * "Calls that are refused answer, the first of these that fits: UNKNOWN, OUTSIDE, STATE, FULL, NO ..
 * They change nothing." Every call with every mixture of good and bad arguments: the table says of each
 * argument what is wrong with it, and the answer that is due is the first refusal among these.
 */
public final class RefusalsTest {
    private static final int U = QuakeLists.UNKNOWN, O = QuakeLists.OUTSIDE, S = QuakeLists.STATE;
    private static final int FULL = QuakeLists.FULL, NO = QuakeLists.NO;
    /** Good numbers have no refusal. */
    private static final int OK = 0;
    private static final Due DUE = new Due("RefusalsTest");

    private static final int[][] LIST = {{0, OK}, {2, OK}, {-1, U}, {3, U}};
    private static final int[][] LIST_0 = {{0, OK}, {-1, U}, {3, U}};
    private static final int[][] CELL = {{0, OK}, {15, OK}, {-1, U}, {16, U}};
    private static final int[][] DAY = {{0, OK}, {3999, OK}, {-1, O}, {4000, O}};
    private static final int[][] GREATNESS = {{0, OK}, {90, OK}, {-1, O}, {91, O}};
    private static final int[][] PART = {{0, OK}, {1, OK}, {-1, O}, {2, O}};
    /** Of SOME: five quakes. */
    private static final int[][] QUAKE = {{0, OK}, {4, OK}, {-1, U}, {5, U}};
    /** Of SOME: quake 3 is a blast; all are known on day 41, quake 4 not on day 40. */
    private static final int[][] DAUGHTER = {{0, OK}, {4, OK}, {3, S}, {-1, U}, {5, U}};
    private static final int[][] KNOWN = {{41, OK}, {3999, OK}, {-1, O}, {4000, O}};
    /** Of SOME: two forecasts. */
    private static final int[][] FORECAST = {{0, OK}, {1, OK}, {-1, U}, {2, U}};

    public static void main(String[] args) {
        lists();
        counts();
        mothers();
        forecasts();
        ground();
        noMoreRoom();
        tooManyToJoin();
        stateBehindAllElse();
        noFirstRefusalIsMissed();
        DUE.end();
    }

    private static int[][] range(int least, int most) {
        return new int[][] {{least, OK}, {most, OK}, {least - 1, O}, {most + 1, O}};
    }

    private static int[][] only(int v) {
        return new int[][] {{v, OK}};
    }

    private static void lists() {
        int[][] toldLast = {{3999, OK}, {-1, O}, {4000, O}};
        int[][] toldAhead = {{20, OK}, {19, O}};
        all(Sample.SOME, OK, "quake", LIST, DAY, CELL, CELL, GREATNESS, toldLast);
        all(Sample.SOME, OK, "quake", LIST, only(20), CELL, CELL, GREATNESS, toldAhead);
        all(Sample.SOME, OK, "blast", QUAKE, new int[][] {{0, OK}, {1, OK}});
        all(Sample.SOME, OK, "mend", QUAKE, GREATNESS);
        all(Sample.SOME, OK, "about", QUAKE, range(0, 7));
        int[] most = {10, 5, 20, 100000, 20};
        for (int which = 0; which < 5; which++) {
            int[][] one = {{which, OK}, {-1, O}, {5, O}};
            all(Sample.SOME, OK, "set", one, range(which == 3 ? 1 : 0, most[which]));
        }
        int[][] ofA = {{-1, OK}, {-2, OK}, {0, OK}, {4, OK}, {-3, U}, {1, U}, {3, U}, {5, U}};
        int[][] other = {{1, OK}, {2, OK}, {0, U}, {-1, U}, {3, U}};
        all(Sample.SOME, OK, "join", LIST_0, other, ofA);
    }

    private static void counts() {
        int[][] listOrAll = {{-1, OK}, {0, OK}, {2, OK}, {-2, U}, {3, U}};
        int[][] other = {{1, OK}, {0, U}, {-1, U}, {3, U}};
        all(Sample.SOME, OK, "often", listOrAll, DAY, GREATNESS);
        all(Sample.SOME, OK, "whole", listOrAll, DAY);
        int[][] notEmpty = {{-1, OK}, {0, OK}, {2, S}, {-2, U}, {3, U}};
        int[][] known = {{10, OK}, {3999, OK}, {9, S}, {-1, O}, {4000, O}};
        int[][] great = {{0, OK}, {40, OK}, {61, S}, {90, S}, {-1, O}, {91, O}};
        all(Sample.SOME, OK, "slope", notEmpty, known, great, PART);
        all(Sample.SOME, OK, "alike", LIST_0, other, GREATNESS, PART);
        int[][] n = {{-1, OK}, {8, OK}};
        int[][] mostDays = {{100, OK}, {1, O}, {101, O}};
        int[][] leastDays = {{2, OK}, {1, O}, {101, O}};
        all(Sample.SOME, OK, "few", range(1, 8), n, range(1, 99), mostDays, PART);
        all(Sample.SOME, OK, "few", range(1, 8), n, range(1, 1), leastDays, PART);
    }

    private static void mothers() {
        int[][] produce = {{0, OK}, {-1, O}, {3, O}};
        int[][] fadeAndSpread = {{1, OK}, {2, OK}};
        all(Sample.SOME, OK, "step", produce, range(0, 9), range(0, 100));
        all(Sample.SOME, OK, "step", fadeAndSpread, range(0, 7), range(0, 100));
        int[][] from = {{-1, OK}, {0, OK}, {3, OK}, {4, OK}, {-2, U}, {5, U}};
        all(Sample.SOME, OK, "share", DAUGHTER, from, KNOWN, PART);
        all(Sample.SOME, OK, "mother", DAUGHTER, KNOWN);
        all(Sample.SOME, OK, "family", DAUGHTER, KNOWN, range(0, 3));
        all(Sample.SOME, OK, "draw", range(1, 1000000), DAUGHTER, KNOWN);
        // a day on which the quake was not known yet
        int[][] early = {{40, S}, {-1, O}, {4000, O}};
        int[][] late = {{4, OK}, {3, S}, {-1, U}, {5, U}};
        all(Sample.SOME, OK, "share", late, from, early, PART);
        all(Sample.SOME, OK, "mother", late, early);
        all(Sample.SOME, OK, "family", late, early, range(0, 3));
        all(Sample.SOME, OK, "draw", range(1, 1000000), late, early);
        all(Sample.SOME, OK, "families", DAY, new int[][] {{-2, OK}, {-1, OK}, {0, OK}, {99, OK}});
        all(Sample.SOME, OK, "rate", CELL, CELL, DAY, DAY);
    }

    private static void forecasts() {
        int[][] to = {{3999, OK}, {-1, O}, {4000, O}};
        int[][] from = {{0, OK}, {3990, OK}, {-1, O}, {4000, O}};
        all(Sample.SOME, OK, "say", range(33, 126));
        all(Sample.SOME, NO, "forecast");
        all(Sample.NEW, NO, "forecast");
        all(Sample.SOME, OK, "tells", FORECAST, DAY);
        all(Sample.SOME, OK, "score", FORECAST, GREATNESS, from, to);
        all(Sample.SOME, OK, "mixed", FORECAST, FORECAST, range(0, 10), GREATNESS, from, to);
        all(Sample.SOME, OK, "best", FORECAST, FORECAST, GREATNESS, from, to);
        // from behind to, both of them days
        int[][] behind = {{7, OK}, {6, O}};
        all(Sample.SOME, OK, "score", FORECAST, GREATNESS, only(7), behind);
        all(Sample.SOME, OK, "mixed", FORECAST, FORECAST, range(0, 10), GREATNESS, only(7), behind);
        all(Sample.SOME, OK, "best", FORECAST, FORECAST, GREATNESS, only(7), behind);
    }

    private static void ground() {
        all(Sample.SOME, OK, "house", CELL, CELL, range(0, 2), range(0, 10000), range(0, 100));
        all(Sample.SOME, OK, "damage", range(0, 3), range(0, 9), range(0, 100));
        all(Sample.SOME, OK, "loss", QUAKE);
        all(Sample.SOME, OK, "worst", DAY, range(0, 1));
        all(Sample.SOME, OK, "law", CELL, CELL, GREATNESS, range(1, 1000));
        all(Sample.SOME, OK, "curve", range(0, 1000000));
        all(Sample.SOME, OK, "mean", range(0, 7));
        all(Sample.SOME, OK, "strengthen", range(0, 500));
        all(Sample.SOME, OK, "told", range(0, 5));
        all(Sample.SOME, OK, "told", range(10, 14));
    }

    private static void noMoreRoom() {
        int[][] toldLast = {{3999, OK}, {-1, O}, {4000, O}};
        all(Sample.FULL, FULL, "quake", LIST, DAY, CELL, CELL, GREATNESS, toldLast);
        all(Sample.FULL, FULL, "say", range(33, 126));
        all(Sample.FULL, FULL, "forecast");
        all(Sample.FULL, FULL, "house", CELL, CELL, range(0, 2), range(0, 10000), range(0, 100));
        all(Sample.FULL, FULL, "law", CELL, CELL, GREATNESS, range(1, 1000));
        // what names one of the last ones is taken, the next is not
        all(Sample.FULL, OK, "about", new int[][] {{39, OK}, {40, U}}, range(0, 7));
        all(Sample.FULL, OK, "tells", new int[][] {{5, OK}, {6, U}}, DAY);
        all(Sample.FULL, OK, "mean", range(0, 4095));
    }

    private static void tooManyToJoin() {
        int[][] ofCrowded = {{-1, OK}, {-2, OK}, {0, OK}, {12, OK}, {-3, U}, {13, U}, {14, U}};
        int[][] other = {{1, OK}, {2, OK}, {0, U}, {-1, U}, {3, U}};
        all(Sample.CROWDED, NO, "join", LIST_0, other, ofCrowded);
        int[][] list1 = {{1, OK}, {-1, U}, {3, U}};
        int[][] crowded = {{0, OK}, {1, U}};
        int[][] ofOther = {{-1, OK}, {-2, OK}, {13, OK}, {12, U}, {-3, U}};
        all(Sample.CROWDED, NO, "join", list1, crowded, ofOther);
        all(Sample.CROWDED, OK, "join", only(1), only(2), new int[][] {{-1, OK}, {13, OK}, {12, U}});
        all(Sample.FULL, OK, "join", only(0), only(1), new int[][] {{-1, OK}, {22, OK}, {23, U}});
        all(Sample.FULL, NO, "join", only(0), only(2), new int[][] {{-1, OK}, {22, OK}, {23, U}});
    }

    /** A blast that is not known, asked of on no day and for a part that is none: OUTSIDE is the first that fits. */
    private static void stateBehindAllElse() {
        QuakeLists x = Sample.SOME.make();
        DUE.due("a blast, no day", x.mother(3, -1), O);
        DUE.due("a blast, no such part", x.share(3, 0, 50, 2), QuakeLists.LOST + O);
        DUE.due("a blast, no such mother", x.share(3, 5, 50, 2), QuakeLists.LOST + U);
        DUE.due("none so great, no such part", x.slope(0, 50, 90, 2), QuakeLists.LOST + O);
    }

    /** The table must show every refusal that the document names for a call. */
    private static void noFirstRefusalIsMissed() {
        String[] named = {
            "quake -1 -2 -4", "blast -1", "mend -1 -2", "about -1 -2", "set -2", "join -1 -5",
            "often -1 -2", "whole -1 -2", "slope -1 -2 -3", "alike -1 -2", "few -2",
            "step -2", "share -1 -2 -3", "mother -1 -2 -3", "family -1 -2 -3", "families -2",
            "draw -1 -2 -3", "rate -1 -2",
            "say -2 -4", "forecast -4 -5", "tells -1 -2", "score -1 -2", "mixed -1 -2", "best -1 -2",
            "house -1 -2 -4", "damage -2", "loss -1", "worst -2", "law -1 -2 -4", "curve -2", "mean -2",
            "strengthen -2", "told -2"
        };
        for (String row : named) {
            String[] words = row.split(" ");
            for (int refusal = -1; refusal >= -5; refusal--) {
                boolean isNamed = Arrays.asList(words).contains("" + refusal);
                DUE.yes(words[0] + " knows " + refusal, isNamed == SEEN.contains(words[0] + " " + refusal));
            }
        }
    }

    private static final List<String> SEEN = new ArrayList<>();

    /** Asks the call with every mixture of the arguments; the state has a refusal of its own, or OK. */
    private static void all(Sample sample, int ofState, String call, int[][]... arguments) {
        List<Asked> refused = new ArrayList<>();
        int[] chosen = new int[arguments.length];
        int mixtures = 1;
        for (int[][] argument : arguments) {
            mixtures *= argument.length;
        }
        QuakeLists x = sample.make();
        for (int mixture = 0; mixture < mixtures; mixture++) {
            int rest = mixture;
            int due = ofState;
            for (int i = 0; i < arguments.length; i++) {
                int[] one = arguments[i][rest % arguments[i].length];
                rest /= arguments[i].length;
                chosen[i] = one[0];
                due = first(due, one[1]);
            }
            Asked asked = new Asked(call, chosen.clone());
            if (due == OK) {
                long answer = asked.of(sample.make());
                DUE.yes(sample + " " + asked + " is taken: " + answer, Asked.isTaken(answer));
                continue;
            }
            SEEN.add(call + " " + due);
            DUE.due(sample + " " + asked, asked.of(x), asked.refusal(due));
            refused.add(asked);
            if (refused.size() == Sample.AT_ONCE) {
                nothingChanged(sample, refused);
                refused.clear();
                x = sample.make();
            }
        }
        nothingChanged(sample, refused);
    }

    /** UNKNOWN is -1 and NO is -5, so the first one that fits is the greatest. */
    private static int first(int one, int other) {
        if (one == OK || other == OK) {
            return one + other;
        }
        return Math.max(one, other);
    }

    private static void nothingChanged(Sample sample, List<Asked> refused) {
        if (refused.isEmpty()) {
            return;
        }
        boolean same = Arrays.equals(sample.answersAfter(List.of()), sample.answersAfter(refused));
        DUE.yes(sample + " " + refused.get(0) + " and the next ones change nothing", same);
    }
}
