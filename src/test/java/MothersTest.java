/** Promises 13 to 19: steps, shares, mothers, families, lots, rates. */
public final class MothersTest {
    private static final Due DUE = new Due("MothersTest");
    private static final long UNKNOWN = QuakeLists.LOST - 1, OUTSIDE = QuakeLists.LOST - 2, STATE = QuakeLists.LOST - 3;

    public static void main(String[] args) {
        steps();
        fadeSteps();
        spreadSteps();
        produceSteps();
        share();
        mother();
        family();
        draw();
        drawAtEnds();
        rate();
        greatestWeights();
        DUE.end();
    }

    private static void due(String call, long got, long want) {
        DUE.due(call, got, want);
    }

    private static void setAll(QuakeLists x, int what, int v) {
        for (int step = 0; step < 10; step++) {
            x.step(what, step, v);
        }
    }

    private static void steps() {
        QuakeLists x = new QuakeLists();
        int[] last = {9, 7, 7};
        for (int what = 0; what < 3; what++) {
            due("step to 100", x.step(what, last[what], 100), 0);
            due("step to 0", x.step(what, last[what], 0), 100);
            due("step 0", x.step(what, 0, 7), 0);
            due("step 0 again", x.step(what, 0, 7), 7);
            due("step above", x.step(what, last[what] + 1, 1), QuakeLists.OUTSIDE);
            due("step below", x.step(what, -1, 1), QuakeLists.OUTSIDE);
            due("v above", x.step(what, 0, 101), QuakeLists.OUTSIDE);
            due("v below", x.step(what, 0, -1), QuakeLists.OUTSIDE);
            due("still as it was", x.step(what, 0, 0), 7);
        }
        due("what 3", x.step(3, 0, 0), QuakeLists.OUTSIDE);
        due("what -1", x.step(-1, 0, 0), QuakeLists.OUTSIDE);
    }

    /** Rates tell the weight of one quake by the days that have gone by. */
    private static void fadeSteps() {
        QuakeLists x = new QuakeLists();
        setAll(x, 0, 1);
        setAll(x, 2, 1);
        for (int step = 0; step < 8; step++) {
            x.step(1, step, 10 + step);
        }
        x.set(3, 1);
        x.quake(0, 100, 0, 0, 40, 100);
        int[] days = {1, 2, 3, 4, 7, 8, 15, 16, 31, 32, 63, 64, 3899};
        int[] step = {1, 2, 2, 3, 3, 4, 4, 5, 5, 6, 6, 7, 7};
        for (int i = 0; i < days.length; i++) {
            due("fade after " + days[i], x.rate(0, 0, 100 + days[i], 3999), 1 + 10 + step[i]);
        }
        x.quake(0, 100, 0, 0, 40, 100);
        due("fade on the same day, upper", x.share(1, 0, 3999, 0), 10);
        due("fade on the same day, lower", x.share(1, 0, 3999, 1), 11);
    }

    private static void spreadSteps() {
        QuakeLists x = new QuakeLists();
        setAll(x, 0, 1);
        setAll(x, 1, 1);
        for (int step = 0; step < 8; step++) {
            x.step(2, step, 10 + step);
        }
        x.set(3, 1);
        x.quake(0, 0, 0, 0, 40, 0);
        for (int far = 0; far < 16; far++) {
            due("spread by x " + far, x.rate(far, far / 2, 1, 1), 1 + 10 + Math.min(7, far));
            due("spread by y " + far, x.rate(0, far, 1, 1), 1 + 10 + Math.min(7, far));
        }
    }

    private static void produceSteps() {
        QuakeLists x = new QuakeLists();
        setAll(x, 1, 1);
        setAll(x, 2, 1);
        for (int step = 0; step < 10; step++) {
            x.step(0, step, 10 + step);
        }
        x.set(3, 1);
        x.quake(0, 0, 0, 0, 0, 0);
        for (int greatness = 0; greatness <= 90; greatness++) {
            x.mend(0, greatness);
            due("produce of " + greatness, x.rate(0, 0, 1, 1), 1 + 10 + greatness / 10);
        }
    }

    /** Quakes 0 (day 5), 1 (day 3, told on day 30), 2 (day 6): 1 is the first in the order. */
    private static QuakeLists three() {
        QuakeLists x = new QuakeLists();
        setAll(x, 0, 10);
        setAll(x, 1, 2);
        setAll(x, 2, 5);
        x.quake(0, 5, 0, 0, 40, 5);
        x.quake(1, 3, 0, 0, 20, 30);
        x.quake(2, 6, 1, 0, 30, 6);
        return x;
    }

    private static void share() {
        QuakeLists x = three();
        due("half from 0, upper", x.share(2, 0, 29, 0), 1);
        due("half from 0, lower", x.share(2, 0, 29, 1), 2);
        due("third from 0, when 1 is known", x.share(2, 0, 30, 1), 3);
        due("third from calm", x.share(2, -1, 30, 1), 3);
        due("from what is not known, upper", x.share(2, 1, 29, 0), 0);
        due("from what is not known, lower", x.share(2, 1, 29, 1), 1);
        due("from what is behind, upper", x.share(0, 2, 30, 0), 0);
        due("from what is behind, lower", x.share(0, 2, 30, 1), 1);
        due("from itself", x.share(2, 2, 30, 0), 0);
        due("the first one is calm's", x.share(1, -1, 30, 1), 1);
        x.step(2, 1, 0);
        due("weight 0, upper", x.share(2, 0, 30, 0), 0);
        due("weight 0, lower", x.share(2, 0, 30, 1), 1);
        due("j not known", x.share(1, 0, 29, 0), STATE);
        x.blast(2, true);
        due("j a blast", x.share(2, 0, 30, 0), STATE);
        x.blast(2, false);
        x.blast(0, true);
        due("i a blast", x.share(2, 0, 30, 0), 0);
        due("j 3", x.share(3, 0, -1, 2), UNKNOWN);
        due("j -1", x.share(-1, 0, 30, 0), UNKNOWN);
        due("i 3", x.share(0, 3, 30, 0), UNKNOWN);
        due("i -2", x.share(0, -2, 4000, 0), UNKNOWN);
        due("known 4000", x.share(0, 1, 4000, 0), OUTSIDE);
        due("known -1", x.share(0, 1, -1, 0), OUTSIDE);
        due("part 2, and not counted", x.share(1, 1, 29, 2), OUTSIDE);
        due("part -1", x.share(0, 1, 30, -1), OUTSIDE);
    }

    private static void mother() {
        QuakeLists x = three();
        due("as great as calm", x.mother(2, 30), QuakeLists.NONE);
        x.set(3, 99);
        due("of two as great the first in the order", x.mother(2, 30), 1);
        due("as known on day 29", x.mother(2, 29), 0);
        x.step(0, 4, 11);
        due("the greatest", x.mother(2, 30), 0);
        due("the first one of all", x.mother(1, 30), QuakeLists.NONE);
        due("of the other list", x.mother(0, 30), 1);
        due("not counted", x.mother(1, 29), QuakeLists.STATE);
        x.blast(0, true);
        due("a blast is no mother", x.mother(2, 29), QuakeLists.NONE);
        due("a blast has none", x.mother(0, 30), QuakeLists.STATE);
        due("j 3, and outside", x.mother(3, 4000), QuakeLists.UNKNOWN);
        due("j -1", x.mother(-1, 0), QuakeLists.UNKNOWN);
        due("known 4000, and not counted", x.mother(0, 4000), QuakeLists.OUTSIDE);
        due("known -1", x.mother(0, -1), QuakeLists.OUTSIDE);
        x = new QuakeLists();
        setAll(x, 0, 100);
        setAll(x, 1, 100);
        setAll(x, 2, 100);
        x.quake(0, 7, 0, 0, 1, 7);
        x.quake(0, 7, 0, 0, 1, 7);
        due("on one day the lesser number is ahead", x.mother(1, 7), 0);
        due("and has no mother", x.mother(0, 7), QuakeLists.NONE);
    }

    /** Chain 3 (day 1) - 0 (day 2) - 1 (day 3), beside it 2 (day 4, far off) with daughter 4; 5 is another's. */
    private static void family() {
        QuakeLists x = new QuakeLists();
        x.quake(0, 2, 0, 0, 10, 2);
        x.quake(1, 3, 0, 0, 10, 3);
        x.quake(2, 4, 9, 9, 10, 4);
        x.quake(0, 1, 0, 0, 10, 1);
        x.quake(0, 5, 9, 9, 10, 5);
        x.quake(0, 3, 0, 0, 10, 50);
        setAll(x, 0, 100);
        x.step(1, 1, 100);
        x.step(2, 0, 100);
        int[] first = {3, 3, 2, 3, 2};
        int[] many = {3, 3, 2, 3, 2};
        int[] deepest = {2, 2, 1, 2, 1};
        int[] depth = {1, 2, 0, 0, 1};
        for (int j = 0; j < 5; j++) {
            due("first of " + j, x.family(j, 49, 0), first[j]);
            due("many of " + j, x.family(j, 49, 1), many[j]);
            due("deepest of " + j, x.family(j, 49, 2), deepest[j]);
            due("depth of " + j, x.family(j, 49, 3), depth[j]);
        }
        due("one more is known", x.family(0, 50, 1), 4);
        due("families", x.families(49, -1), 2);
        due("first family", x.families(49, 0), 3);
        due("second family", x.families(49, 1), 2);
        due("no third", x.families(49, 2), QuakeLists.NONE);
        due("far above", x.families(49, Integer.MAX_VALUE), QuakeLists.NONE);
        due("below", x.families(49, -2), QuakeLists.NONE);
        due("on day 3", x.families(3, -1), 1);
        due("on day 0", x.families(0, -1), 0);
        due("none on day 0", x.families(0, 0), QuakeLists.NONE);
        due("day 4000", x.families(4000, 0), QuakeLists.OUTSIDE);
        due("day -1", x.families(-1, -1), QuakeLists.OUTSIDE);
        due("2 is alone on day 4", x.family(2, 4, 2), 0);
        x.blast(0, true);
        due("1 stands alone then", x.family(1, 49, 1), 1);
        due("and is a first one", x.families(49, 1), 1);
        due("a blast has no family", x.family(0, 49, 1), QuakeLists.STATE);
        due("nor has what is not known", x.family(5, 49, 0), QuakeLists.STATE);
        due("j 6", x.family(6, -1, 4), QuakeLists.UNKNOWN);
        due("j -1", x.family(-1, 49, 0), QuakeLists.UNKNOWN);
        due("what 4, and not counted", x.family(0, 49, 4), QuakeLists.OUTSIDE);
        due("what -1", x.family(1, 49, -1), QuakeLists.OUTSIDE);
        due("known -1", x.family(1, -1, 0), QuakeLists.OUTSIDE);
    }

    /** Weights of 100 each from calm, 1 and 0 (in the order): lots go by hundreds. */
    private static void draw() {
        QuakeLists x = three();
        boolean[] seen = new boolean[3];
        for (int seed = 1; seed <= 40; seed++) {
            // the third in the order: the seed has moved three times
            long moved = seed;
            for (int i = 0; i < 3; i++) {
                moved = moved * 16807 % 2147483647L;
            }
            int third = (int) (moved % 300 / 100);
            seen[third] = true;
            due("drawn by " + seed, x.draw(seed, 2, 30), new int[] {QuakeLists.NONE, 1, 0}[third]);
            moved = (long) seed * 16807 % 2147483647L * 16807 % 2147483647L;
            due("drawn by " + seed + ", day 29", x.draw(seed, 2, 29), moved % 200 < 100 ? QuakeLists.NONE : 0);
            due("the first in the order", x.draw(seed, 1, 30), QuakeLists.NONE);
        }
        DUE.yes("each was drawn", seen[0] && seen[1] && seen[2]);
        due("seed 1000000", x.draw(1000000, 1, 30), QuakeLists.NONE);
        due("seed 0", x.draw(0, 2, 30), QuakeLists.OUTSIDE);
        due("seed 1000001", x.draw(1000001, 2, 30), QuakeLists.OUTSIDE);
        due("known 4000", x.draw(1, 2, 4000), QuakeLists.OUTSIDE);
        due("outside, and not counted", x.draw(0, 1, 29), QuakeLists.OUTSIDE);
        due("not counted", x.draw(1, 1, 29), QuakeLists.STATE);
        due("j 3, and outside", x.draw(0, 3, 30), QuakeLists.UNKNOWN);
        due("j -1", x.draw(1, -1, 30), QuakeLists.UNKNOWN);
    }

    /** All weights are 1, so every lot stands at an end. */
    private static void drawAtEnds() {
        QuakeLists x = new QuakeLists();
        setAll(x, 0, 1);
        setAll(x, 1, 1);
        setAll(x, 2, 1);
        x.set(3, 1);
        x.quake(0, 9, 0, 0, 10, 9);
        x.quake(0, 1, 0, 0, 10, 1);
        x.quake(0, 5, 0, 0, 10, 5);
        x.quake(0, 4, 0, 0, 10, 4);
        x.blast(3, true);
        for (int seed = 1; seed <= 30; seed++) {
            long moved = seed;
            for (int i = 0; i < 3; i++) {
                moved = moved * 16807 % 2147483647L;
            }
            due("drawn at an end by " + seed, x.draw(seed, 0, 9), new int[] {QuakeLists.NONE, 1, 2}[(int) (moved % 3)]);
        }
        due("calm is as great as all", x.families(9, -1), 3);
        x.step(0, 1, 2);
        due("0 is the deepest", x.family(1, 9, 2), 1);
        x.mend(2, 20);
        x.step(0, 2, 3);
        due("0 is the deepest of three", x.family(1, 9, 2), 2);
        due("0 is no first one", x.families(9, -1), 1);
    }

    private static void rate() {
        QuakeLists x = three();
        due("calm alone", x.rate(0, 0, 3, 30), 100);
        due("1, told late", x.rate(0, 0, 4, 30), 200);
        due("1, not known", x.rate(0, 0, 4, 29), 100);
        due("1 and 0", x.rate(0, 0, 6, 30), 300);
        due("all of them", x.rate(0, 0, 7, 30), 400);
        x.blast(0, true);
        due("without the blast", x.rate(0, 0, 7, 30), 300);
        due("x 16, and outside", x.rate(16, 0, 4000, 0), QuakeLists.UNKNOWN);
        due("x -1", x.rate(-1, 0, 0, 0), QuakeLists.UNKNOWN);
        due("y 16", x.rate(0, 16, 0, 0), QuakeLists.UNKNOWN);
        due("y -1", x.rate(0, -1, 0, 0), QuakeLists.UNKNOWN);
        due("day 4000", x.rate(0, 0, 4000, 0), QuakeLists.OUTSIDE);
        due("day -1", x.rate(0, 0, -1, 0), QuakeLists.OUTSIDE);
        due("known 4000", x.rate(0, 0, 0, 4000), QuakeLists.OUTSIDE);
        due("known -1", x.rate(0, 0, 0, -1), QuakeLists.OUTSIDE);
    }

    private static void greatestWeights() {
        QuakeLists x = new QuakeLists();
        setAll(x, 0, 100);
        setAll(x, 1, 100);
        setAll(x, 2, 100);
        x.set(3, 100000);
        for (int i = 0; i < 40; i++) {
            x.quake(0, 1, 0, 0, 90, 1);
        }
        due("rate", x.rate(0, 0, 2, 2), 40100000);
        due("share of calm, lower", x.share(39, -1, 2, 1), 391);
        due("share of one, upper", x.share(39, 38, 2, 0), 10);
        due("deepest", x.family(0, 2, 2), 1);
        due("many", x.family(20, 2, 1), 40);
    }
}
