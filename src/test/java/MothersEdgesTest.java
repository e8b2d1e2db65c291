/** Section 3 and promises 13 to 19, sentence by sentence: each that names an edge has a test of its own. */
public final class MothersEdgesTest {
    private static final int UNKNOWN = QuakeLists.UNKNOWN, OUTSIDE = QuakeLists.OUTSIDE;
    private static final int STATE = QuakeLists.STATE, NONE = QuakeLists.NONE;
    private static final long LOST = QuakeLists.LOST;
    /** What the seed 1000000 has become in two turns, and the seed 1 in forty. */
    private static final long MILLION_TWICE = 1692524561L, FORTIETH = 784558821L;
    private static final Due DUE = new Due("MothersEdgesTest");

    public static void main(String[] args) {
        oneAheadOfItInTheOrder();
        ofAllLists();
        produceByGreatnessOfTheMother();
        fadeByDaysBetween();
        spreadByHowFar();
        calmFromOneToHundredThousand();
        stepsFromZeroToHundred();
        stepsOfEachRow();
        shareIsAWeightByAllWeights();
        shareOfZero();
        shareOfGreatestWeights();
        shareRefuses();
        motherHasTheGreatestWeight();
        calmAheadOfAllOfAsGreat();
        thenTheFirstInTheOrder();
        motherRefuses();
        familyOfOne();
        familyOfAChain();
        familyOfAStar();
        familyAsKnown();
        familyRefuses();
        familiesOneByOne();
        fortyFamilies();
        familiesRefuse();
        seedsFromOneToAMillion();
        lotInCalm();
        lotInThoseAhead();
        lotPassesByWhatWeighsNothing();
        lotMovesForCountedOnesAlone();
        lotMovesUpToItself();
        lotOfTheFortieth();
        drawRefuses();
        rateOfDaysAhead();
        rateOfWhatIsKnown();
        rateAtEnds();
        rateRefuses();
        DUE.end();
    }

    private static void due(String call, long got, long want) {
        DUE.due(call, got, want);
    }

    private static void setAll(QuakeLists x, int what, int v) {
        for (int step = 0; step <= (what == 0 ? 9 : 7); step++) {
            x.step(what, step, v);
        }
    }

    /** All steps are so great, and CALM is, too. */
    private static QuakeLists weighing(int produce, int fade, int spread, int calm) {
        QuakeLists x = new QuakeLists();
        setAll(x, 0, produce);
        setAll(x, 1, fade);
        setAll(x, 2, spread);
        x.set(3, calm);
        return x;
    }

    private static int add(QuakeLists x, int day) {
        return x.quake(0, day, 0, 0, 10, day);
    }

    private static void share(String call, QuakeLists x, int j, int i, long upper, long lower) {
        due("share " + j + " from " + i + " " + call + ", upper", x.share(j, i, 3999, 0), upper);
        due("share " + j + " from " + i + " " + call + ", lower", x.share(j, i, 3999, 1), lower);
    }

    private static void oneAheadOfItInTheOrder() {
        DUE.sentence("each may come of one ahead of it in THE ORDER, or of none (CALM)");
        QuakeLists x = weighing(2, 1, 1, 1);
        add(x, 7);
        add(x, 7);
        add(x, 6);
        share("of its day, the lesser number", x, 1, 0, 2, 5);
        share("of its day, the greater number", x, 0, 1, 0, 1);
        share("of the day ahead, a greater number", x, 0, 2, 2, 3);
        share("of the day behind", x, 2, 0, 0, 1);
        share("of itself", x, 1, 1, 0, 1);
        share("the first one is all calm's", x, 2, -1, 1, 1);
        due("mother of the first one", x.mother(2, 7), NONE);
        due("mother of 0", x.mother(0, 7), 2);
        due("mother of 1", x.mother(1, 7), 2);
    }

    private static void ofAllLists() {
        DUE.sentence("of QUAKES that are COUNTED (of all LISTS)");
        QuakeLists x = weighing(2, 1, 1, 1);
        x.quake(2, 1, 0, 0, 10, 1);
        x.quake(0, 2, 0, 0, 10, 2);
        x.quake(1, 3, 0, 0, 10, 3);
        due("a mother in another list", x.mother(1, 9), 0);
        share("two lists and calm", x, 2, 0, 2, 5);
        due("one family", x.families(9, -1), 1);
        due("of three lists", x.family(2, 9, 1), 3);
    }

    /** The mother's greatness, not the daughter's. */
    private static void produceByGreatnessOfTheMother() {
        DUE.sentence("PRODUCE of i's GREATNESS by 10 (0 to 9)");
        QuakeLists x = weighing(0, 1, 1, 1);
        for (int step = 0; step <= 9; step++) {
            x.step(0, step, 11 + step);
        }
        x.quake(0, 1, 0, 0, 0, 1);
        x.quake(0, 2, 0, 0, 55, 2);
        int[] greatness = {0, 9, 10, 19, 20, 79, 80, 89, 90};
        int[] weight = {11, 11, 12, 12, 13, 18, 19, 19, 20};
        for (int i = 0; i < greatness.length; i++) {
            x.mend(0, greatness[i]);
            share("with " + greatness[i], x, 1, 0, weight[i], weight[i] + 1);
        }
    }

    private static void fadeByDaysBetween() {
        DUE.sentence("FADE of the DAYS between (0; 1; 2, 3; 4 to 7; 8 to 15; 16 to 31; 32 to 63; 64 and more)");
        int[] days = {0, 1, 2, 3, 4, 7, 8, 15, 16, 31, 32, 63, 64, 65, 3999};
        int[] step = {0, 1, 2, 2, 3, 3, 4, 4, 5, 5, 6, 6, 7, 7, 7};
        for (int i = 0; i < days.length; i++) {
            QuakeLists x = weighing(1, 0, 1, 1);
            for (int s = 0; s <= 7; s++) {
                x.step(1, s, 21 + s);
            }
            add(x, 0);
            add(x, days[i]);
            int weight = 21 + step[i];
            share("after " + days[i] + " days", x, 1, 0, weight, weight + 1);
            if (days[i] > 0) {
                due("rate after " + days[i], x.rate(0, 0, days[i], 0), 1 + weight);
            }
        }
    }

    private static void spreadByHowFar() {
        DUE.sentence("SPREAD of how far they are (0 to 6, 7 and more: 0 to 7)");
        for (int far = 0; far <= 15; far++) {
            QuakeLists x = weighing(1, 1, 0, 1);
            for (int s = 0; s <= 7; s++) {
                x.step(2, s, 31 + s);
            }
            x.quake(0, 0, 0, 15, 10, 0);
            x.quake(0, 0, far, 15, 10, 0);
            int weight = 31 + Math.min(7, far);
            share("by x, far " + far, x, 1, 0, weight, weight + 1);
            QuakeLists y = weighing(1, 1, 0, 1);
            for (int s = 0; s <= 7; s++) {
                y.step(2, s, 31 + s);
            }
            y.quake(0, 0, 0, 15, 10, 0);
            due("rate by y, far " + far, y.rate(0, 15 - far, 1, 0), 1 + weight);
            due("rate by both, far " + far, y.rate(far, 15 - far / 2, 1, 0), 1 + weight);
        }
    }

    private static void calmFromOneToHundredThousand() {
        DUE.sentence("from CALM the weight CALM (1 to 100000; 100 at first)");
        QuakeLists x = new QuakeLists();
        due("100 at first", x.rate(0, 0, 0, 0), 100);
        due("0", x.set(3, 0), OUTSIDE);
        due("100001", x.set(3, 100001), OUTSIDE);
        due("still 100", x.rate(0, 0, 0, 0), 100);
        due("1", x.set(3, 1), 100);
        due("1 is weighed", x.rate(0, 0, 0, 0), 1);
        due("100000", x.set(3, 100000), 1);
        due("100000 is weighed", x.rate(0, 0, 0, 0), 100000);
        setAll(x, 0, 100);
        setAll(x, 1, 100);
        setAll(x, 2, 10);
        add(x, 1);
        add(x, 2);
        due("as great as calm at its most", x.mother(1, 2), NONE);
        x.set(3, 99999);
        due("greater than calm", x.mother(1, 2), 0);
    }

    private static void stepsFromZeroToHundred() {
        DUE.sentence("PRODUCE, FADE, SPREAD of each step: 0 to 100 (0 at first)");
        QuakeLists x = new QuakeLists();
        for (int what = 0; what <= 2; what++) {
            for (int step = 0; step <= (what == 0 ? 9 : 7); step++) {
                due("at first " + what + " " + step, x.step(what, step, 100), 0);
                due("-1", x.step(what, step, -1), OUTSIDE);
                due("101", x.step(what, step, 101), OUTSIDE);
                due("100", x.step(what, step, 0), 100);
                due("0", x.step(what, step, 1 + step), 0);
            }
        }
        for (int what = 0; what <= 2; what++) {
            for (int step = 0; step <= (what == 0 ? 9 : 7); step++) {
                due("each by itself " + what + " " + step, x.step(what, step, 0), 1 + step);
            }
        }
    }

    private static void stepsOfEachRow() {
        DUE.sentence("A step (0 to 7; of PRODUCE 0 to 9) of PRODUCE (what = 0), FADE (1), SPREAD (2). OUTSIDE");
        QuakeLists x = new QuakeLists();
        due("what -1", x.step(-1, 0, 0), OUTSIDE);
        due("what 3", x.step(3, 0, 0), OUTSIDE);
        int[] last = {9, 7, 7};
        for (int what = 0; what <= 2; what++) {
            due("step -1 of " + what, x.step(what, -1, 0), OUTSIDE);
            due("last step of " + what, x.step(what, last[what], 0), 0);
            due("behind the last step of " + what, x.step(what, last[what] + 1, 0), OUTSIDE);
        }
    }

    private static void shareIsAWeightByAllWeights() {
        DUE.sentence("SHARE: a weight by all its weights");
        QuakeLists x = weighing(0, 1, 1, 4);
        x.step(0, 1, 2);
        x.step(0, 2, 6);
        x.quake(0, 1, 0, 0, 10, 1);
        x.quake(0, 2, 0, 0, 20, 2);
        x.quake(0, 3, 0, 0, 30, 3);
        share("4, 2, 6: third", x, 2, -1, 1, 3);
        share("4, 2, 6: sixth", x, 2, 0, 1, 6);
        share("4, 2, 6: half", x, 2, 1, 1, 2);
        share("4, 2: two thirds", x, 1, -1, 2, 3);
        share("4, 2: third", x, 1, 0, 1, 3);
        share("4 alone", x, 0, -1, 1, 1);
    }

    private static void shareOfZero() {
        DUE.sentence("(0, if i is not COUNTED, or not ahead.); 0 by 1 for none");
        QuakeLists x = weighing(5, 5, 5, 1);
        x.quake(0, 1, 0, 0, 10, 9);
        x.quake(0, 2, 0, 0, 10, 2);
        x.quake(0, 3, 0, 0, 10, 3);
        due("not yet known, upper", x.share(2, 0, 8, 0), 0);
        due("not yet known, lower", x.share(2, 0, 8, 1), 1);
        due("calm and 1 then, lower", x.share(2, -1, 8, 1), 126);
        due("known, lower", x.share(2, 0, 9, 1), 251);
        share("behind", x, 1, 2, 0, 1);
        share("itself", x, 1, 1, 0, 1);
        x.blast(1, true);
        share("a blast", x, 2, 1, 0, 1);
        share("calm beside a blast", x, 2, -1, 1, 126);
        x.blast(1, false);
        x.step(2, 0, 0);
        share("weighs nothing", x, 2, 1, 0, 1);
        share("calm has all", x, 2, -1, 1, 1);
    }

    private static void shareOfGreatestWeights() {
        QuakeLists x = weighing(100, 100, 100, 100000);
        for (int i = 0; i < 40; i++) {
            add(x, 1);
        }
        share("39 of a million and calm", x, 39, 38, 10, 391);
        share("39 of a million and calm", x, 39, 0, 10, 391);
        share("39 of a million and calm", x, 39, -1, 1, 391);
        share("one of a million and calm", x, 1, -1, 1, 11);
        x.set(3, 1);
        share("39 of a million and the least calm", x, 39, -1, 1, 39000001);
        share("39 of a million and the least calm", x, 39, 7, 1000000, 39000001);
    }

    private static void shareRefuses() {
        DUE.sentence("UNKNOWN, OUTSIDE; STATE: j is not COUNTED (LOST less 1, 2, 3)");
        QuakeLists x = new QuakeLists();
        due("none there", x.share(0, -1, 0, 0), LOST - 1);
        x.quake(0, 1, 0, 0, 10, 9);
        due("j -1", x.share(-1, 0, 9, 0), LOST - 1);
        due("j 1", x.share(1, 0, 9, 0), LOST - 1);
        due("i -2", x.share(0, -2, 9, 0), LOST - 1);
        due("i 1", x.share(0, 1, 9, 0), LOST - 1);
        due("i 1, day and part outside", x.share(0, 1, -1, 2), LOST - 1);
        due("i 1, j not known", x.share(0, 1, 8, 0), LOST - 1);
        due("day -1", x.share(0, -1, -1, 0), LOST - 2);
        due("day 4000", x.share(0, -1, 4000, 0), LOST - 2);
        due("part -1", x.share(0, -1, 9, -1), LOST - 2);
        due("part 2", x.share(0, -1, 9, 2), LOST - 2);
        due("part 2, j not known", x.share(0, -1, 8, 2), LOST - 2);
        due("j not known", x.share(0, -1, 8, 0), LOST - 3);
        due("j known", x.share(0, -1, 9, 0), 1);
        x.blast(0, true);
        due("j a blast", x.share(0, -1, 9, 0), LOST - 3);
        due("j a blast, day 4000", x.share(0, -1, 4000, 0), LOST - 2);
    }

    private static void motherHasTheGreatestWeight() {
        DUE.sentence("MOTHER: that with the greatest weight");
        QuakeLists x = weighing(0, 1, 1, 1);
        x.step(0, 1, 7);
        x.step(0, 2, 8);
        x.quake(0, 1, 0, 0, 10, 1);
        x.quake(0, 2, 0, 0, 20, 2);
        x.quake(0, 3, 0, 0, 10, 3);
        x.quake(0, 4, 0, 0, 0, 4);
        due("8 between 7 and 7", x.mother(3, 4), 1);
        x.mend(1, 0);
        due("7 and 0 and 7", x.mother(3, 4), 0);
        x.mend(2, 20);
        due("7 and 0 and 8", x.mother(3, 4), 2);
    }

    private static void calmAheadOfAllOfAsGreat() {
        DUE.sentence("CALM ahead of all of as great");
        QuakeLists x = weighing(5, 5, 4, 100);
        add(x, 1);
        add(x, 2);
        due("100 of 100", x.mother(1, 2), NONE);
        due("two families", x.families(2, -1), 2);
        x.set(3, 101);
        due("100 of 101", x.mother(1, 2), NONE);
        x.set(3, 99);
        due("100 of 99", x.mother(1, 2), 0);
        due("one family", x.families(2, -1), 1);
        x.set(3, 1);
        x.step(1, 1, 0);
        due("0 of 1", x.mother(1, 2), NONE);
    }

    private static void thenTheFirstInTheOrder() {
        DUE.sentence("then the first in THE ORDER");
        QuakeLists x = weighing(1, 2, 1, 1);
        add(x, 5);
        add(x, 5);
        add(x, 4);
        add(x, 6);
        due("by days, not numbers", x.mother(3, 6), 2);
        x.blast(2, true);
        due("of one day by numbers", x.mother(3, 6), 0);
        x.blast(0, true);
        due("the next one", x.mother(3, 6), 1);
        x.blast(1, true);
        due("none is left", x.mother(3, 6), NONE);
    }

    private static void motherRefuses() {
        DUE.sentence("MOTHER; NONE: CALM. UNKNOWN; OUTSIDE; STATE");
        QuakeLists x = new QuakeLists();
        x.quake(0, 1, 0, 0, 10, 9);
        due("calm", x.mother(0, 9), NONE);
        due("j -1", x.mother(-1, 9), UNKNOWN);
        due("j 1", x.mother(1, 9), UNKNOWN);
        due("j 1, day 4000", x.mother(1, 4000), UNKNOWN);
        due("day -1", x.mother(0, -1), OUTSIDE);
        due("day 4000", x.mother(0, 4000), OUTSIDE);
        due("day 3999", x.mother(0, 3999), NONE);
        due("day 0: not known", x.mother(0, 0), STATE);
        due("day 8: not known", x.mother(0, 8), STATE);
        x.blast(0, true);
        due("a blast", x.mother(0, 9), STATE);
        due("a blast, day -1", x.mother(0, -1), OUTSIDE);
    }

    private static void familyOfOne() {
        DUE.sentence("A FAMILY: a QUAKE whose MOTHER is CALM");
        QuakeLists x = new QuakeLists();
        add(x, 1);
        add(x, 2);
        for (int j = 0; j < 2; j++) {
            due("first of " + j, x.family(j, 2, 0), j);
            due("many of " + j, x.family(j, 2, 1), 1);
            due("deepest of " + j, x.family(j, 2, 2), 0);
            due("depth of " + j, x.family(j, 2, 3), 0);
        }
    }

    /** Only the day ahead weighs, and numbers go against the days. */
    private static void familyOfAChain() {
        DUE.sentence("its daughters, theirs, and so on. DEPTH of a QUAKE: how many MOTHERS are above it");
        QuakeLists x = new QuakeLists();
        setAll(x, 0, 100);
        x.step(1, 1, 100);
        x.step(2, 0, 100);
        for (int i = 0; i < 40; i++) {
            add(x, 40 - i);
        }
        for (int j = 0; j < 40; j++) {
            due("depth of " + j, x.family(j, 40, 3), 39 - j);
            due("first of " + j, x.family(j, 40, 0), 39);
        }
        due("all forty", x.family(0, 40, 1), 40);
        due("the deepest", x.family(39, 40, 2), 39);
        due("one family", x.families(40, -1), 1);
        x.blast(20, true);
        due("cut in two: below", x.family(0, 40, 1), 20);
        due("cut in two: above", x.family(39, 40, 1), 19);
        due("its deepest", x.family(39, 40, 2), 18);
        due("first below the cut", x.family(0, 40, 0), 19);
        due("depth below the cut", x.family(0, 40, 3), 19);
        due("two families", x.families(40, -1), 2);
    }

    private static void familyOfAStar() {
        QuakeLists x = weighing(100, 100, 100, 100);
        for (int i = 0; i < 40; i++) {
            add(x, 1);
        }
        due("all forty", x.family(39, 1, 1), 40);
        due("the deepest", x.family(0, 1, 2), 1);
        due("depth of the last", x.family(39, 1, 3), 1);
        due("depth of the first", x.family(0, 1, 3), 0);
        due("first of the last", x.family(39, 1, 0), 0);
    }

    private static void familyAsKnown() {
        DUE.sentence("KNOWN on a DAY");
        QuakeLists x = weighing(100, 100, 100, 100);
        x.quake(0, 1, 0, 0, 10, 20);
        x.quake(0, 2, 0, 0, 10, 2);
        x.quake(0, 3, 0, 0, 10, 21);
        due("first of 1 on day 19", x.family(1, 19, 0), 1);
        due("first of 1 on day 20", x.family(1, 20, 0), 0);
        due("many on day 20", x.family(1, 20, 1), 2);
        due("many on day 21", x.family(1, 21, 1), 3);
        due("depth of 1 on day 19", x.family(1, 19, 3), 0);
        due("depth of 1 on day 20", x.family(1, 20, 3), 1);
    }

    private static void familyRefuses() {
        DUE.sentence("0 its first one, 1 how many, 2 the greatest DEPTH in it, 3 DEPTH. UNKNOWN; OUTSIDE; STATE");
        QuakeLists x = new QuakeLists();
        due("none there", x.family(0, 0, 0), UNKNOWN);
        x.quake(0, 1, 0, 0, 10, 9);
        due("j -1", x.family(-1, 9, 0), UNKNOWN);
        due("j 1, all else outside", x.family(1, -1, 4), UNKNOWN);
        due("what -1", x.family(0, 9, -1), OUTSIDE);
        due("what 4", x.family(0, 9, 4), OUTSIDE);
        due("what 3", x.family(0, 9, 3), 0);
        due("what 4, not known", x.family(0, 8, 4), OUTSIDE);
        due("day -1", x.family(0, -1, 0), OUTSIDE);
        due("day 4000", x.family(0, 4000, 0), OUTSIDE);
        due("not known", x.family(0, 8, 0), STATE);
        x.blast(0, true);
        due("a blast", x.family(0, 9, 0), STATE);
        due("a blast, what 4", x.family(0, 9, 4), OUTSIDE);
    }

    private static void familiesOneByOne() {
        DUE.sentence("FAMILIES: how many (i = -1), the first one of the i-th in THE ORDER; NONE");
        QuakeLists x = new QuakeLists();
        due("none there", x.families(3999, -1), 0);
        due("none there, the 0th", x.families(3999, 0), NONE);
        add(x, 9);
        add(x, 7);
        x.quake(0, 8, 0, 0, 10, 30);
        due("how many on day 6", x.families(6, -1), 0);
        due("how many on day 7", x.families(7, -1), 1);
        due("how many on day 9", x.families(9, -1), 2);
        due("how many on day 30", x.families(30, -1), 3);
        due("the 0th", x.families(30, 0), 1);
        due("the 1st", x.families(30, 1), 2);
        due("the 2nd", x.families(30, 2), 0);
        due("the 3rd", x.families(30, 3), NONE);
        due("the 1st on day 29", x.families(29, 1), 0);
        due("the 2nd on day 29", x.families(29, 2), NONE);
        due("-2", x.families(30, -2), NONE);
        x.blast(1, true);
        due("without the blast", x.families(30, 0), 2);
    }

    private static void fortyFamilies() {
        QuakeLists x = new QuakeLists();
        for (int i = 0; i < 40; i++) {
            add(x, 40 - i);
        }
        due("forty", x.families(40, -1), 40);
        for (int i = 0; i < 40; i++) {
            due("family " + i, x.families(40, i), 39 - i);
        }
        due("family 40", x.families(40, 40), NONE);
    }

    private static void familiesRefuse() {
        DUE.sentence("OUTSIDE: the DAY");
        QuakeLists x = new QuakeLists();
        due("day -1", x.families(-1, -1), OUTSIDE);
        due("day 4000", x.families(4000, -1), OUTSIDE);
        due("day -1, -2", x.families(-1, -2), OUTSIDE);
        due("day 0", x.families(0, -1), 0);
        due("day 3999", x.families(3999, -1), 0);
        due("far below", x.families(0, Integer.MIN_VALUE), NONE);
        due("far above", x.families(0, Integer.MAX_VALUE), NONE);
    }

    /** Two quakes, and the second one's lot is what the seed has become in two turns. */
    private static QuakeLists two(int calm, int weight) {
        QuakeLists x = weighing(weight, 1, 1, calm);
        add(x, 1);
        add(x, 2);
        return x;
    }

    /** 1 becomes 16807, then 282475249; 1000000 becomes 1774614471, then 1692524561. */
    private static void seedsFromOneToAMillion() {
        DUE.sentence("DRAWN by a seed (1 to 1000000): .. seed times 16807 left over by 2147483647");
        due("seed 0", two(1, 1).draw(0, 1, 2), OUTSIDE);
        due("seed 1000001", two(1, 1).draw(1000001, 1, 2), OUTSIDE);
        due("seed -1", two(1, 1).draw(-1, 1, 2), OUTSIDE);
        long[][] becomes = {{1, 282475249L}, {1000000, MILLION_TWICE}};
        for (long[] seed : becomes) {
            for (int calm = 1; calm <= 30; calm++) {
                for (int weight = 1; weight <= 3; weight++) {
                    boolean isCalm = seed[1] % (calm + weight) < calm;
                    due("seed " + seed[0] + ", calm " + calm + ", weight " + weight,
                        two(calm, weight).draw((int) seed[0], 1, 2), isCalm ? NONE : 0);
                }
            }
            due("the first one has calm alone", two(1, 100).draw((int) seed[0], 0, 2), NONE);
        }
    }

    private static void lotInCalm() {
        DUE.sentence("the lot, that left over by the sum of its weights, lies in CALM's weight");
        // 282475249 is 7 to the 10th; 282475251 can be divided by 9, 282475250 by 10
        due("lot 0 of calm 1", two(1, 6).draw(1, 1, 2), NONE);
        due("lot 7 of calm 8: the last one", two(8, 1).draw(1, 1, 2), NONE);
        due("lot 9 of calm 9: the first behind it", two(9, 1).draw(1, 1, 2), 0);
        due("lot 1 of calm 1: the first behind it", two(1, 1).draw(1, 1, 2), 0);
        due("lot 1 of calm 2: the last one", two(2, 1).draw(1, 1, 2), NONE);
    }

    /** The third one's lot by seed 1 is 1622650073, so 3 of ten. */
    private static void lotInThoseAhead() {
        DUE.sentence("or behind it in those of the ones ahead of it, in THE ORDER: that is its MOTHER then");
        int[][] weights = {
            {1, 3, 6}, {1, 2, 7}, {2, 2, 6}, {2, 1, 7}, {3, 1, 6}, {3, 7, 0}, {3, 0, 7}, {4, 3, 3}, {1, 1, 8}, {1, 9, 0}
        };
        int[] want = {0, 1, 0, 1, 0, 0, 1, -1, 1, 0};
        for (int i = 0; i < weights.length; i++) {
            QuakeLists x = weighing(0, 1, 1, weights[i][0]);
            x.step(0, 1, weights[i][1]);
            x.step(0, 2, weights[i][2]);
            // the one that stands first in the order has number 2, the second number 0
            x.quake(0, 5, 0, 0, 20, 5);
            x.quake(0, 6, 0, 0, 30, 6);
            x.quake(0, 4, 0, 0, 10, 4);
            int[] inOrder = {2, 0};
            due("weights " + weights[i][0] + " " + weights[i][1] + " " + weights[i][2],
                x.draw(1, 1, 6), want[i] < 0 ? NONE : inOrder[want[i]]);
        }
    }

    private static void lotPassesByWhatWeighsNothing() {
        QuakeLists x = weighing(0, 1, 1, 3);
        x.step(0, 5, 7);
        for (int i = 0; i < 39; i++) {
            x.quake(0, i, 0, 0, i == 38 ? 50 : 10, i);
        }
        add(x, 39);
        due("only the last one ahead weighs", x.draw(1, 39, 39), FORTIETH % 10 < 3 ? NONE : 38);
        x.set(3, 1);
        due("only the last one ahead weighs, calm 1", x.draw(1, 39, 39), FORTIETH % 8 < 1 ? NONE : 38);
    }

    private static void lotMovesForCountedOnesAlone() {
        DUE.sentence("for each COUNTED QUAKE in THE ORDER the seed becomes ..");
        QuakeLists x = weighing(1, 1, 1, 1);
        x.quake(0, 1, 0, 0, 10, 50);
        add(x, 2);
        add(x, 3);
        add(x, 4);
        // lots of 1: 16807, 282475249, 1622650073, 984943658
        due("the third of three: 1622650073 of 3 is 2", x.draw(1, 3, 49), 2);
        due("the fourth of four: 984943658 of 4 is 2", x.draw(1, 3, 50), 1);
        x.blast(1, true);
        due("a blast does not count: 1622650073 of 3 is 2", x.draw(1, 3, 50), 2);
        due("nor does what is behind it: 282475249 of 2 is 1", x.draw(1, 2, 50), 0);
        x.blast(3, true);
        due("nor does a blast behind it", x.draw(1, 2, 50), 0);
    }

    /** Lots of 1: 16807 of 1 is 0, 282475249 of 2 is 1, 1622650073 of 3 is 2, 984943658 of 4 is 2. */
    private static void lotMovesUpToItself() {
        QuakeLists x = weighing(1, 1, 1, 1);
        int[] day = {3, 1, 4, 2};
        for (int i = 0; i < 4; i++) {
            add(x, day[i]);
        }
        // in the order: 1, 3, 0, 2
        due("the first in the order", x.draw(1, 1, 9), NONE);
        due("the second in the order", x.draw(1, 3, 9), 1);
        due("the third in the order", x.draw(1, 0, 9), 3);
        due("the fourth in the order", x.draw(1, 2, 9), 3);
        due("drawing changes nothing", x.draw(1, 3, 9), 1);
    }

    private static void lotOfTheFortieth() {
        QuakeLists x = weighing(1, 1, 1, 1);
        for (int i = 0; i < 40; i++) {
            add(x, i);
        }
        int lot = (int) (FORTIETH % 40);
        due("the fortieth", x.draw(1, 39, 39), lot == 0 ? NONE : lot - 1);
        QuakeLists y = weighing(100, 100, 100, 100000);
        for (int i = 0; i < 40; i++) {
            add(y, i);
        }
        // 39100000 in all: calm has 100000, each of the others a million
        long great = FORTIETH % 39100000L;
        due("the fortieth, of greatest weights", y.draw(1, 39, 39), great < 100000 ? NONE : (great - 100000) / 1000000);
    }

    private static void drawRefuses() {
        DUE.sentence("MOTHER of a QUAKE, DRAWN; NONE: CALM. UNKNOWN; OUTSIDE; STATE");
        QuakeLists x = new QuakeLists();
        due("none there", x.draw(1, 0, 0), UNKNOWN);
        x.quake(0, 1, 0, 0, 10, 9);
        due("j -1", x.draw(1, -1, 9), UNKNOWN);
        due("j 1, all else outside", x.draw(0, 1, -1), UNKNOWN);
        due("seed 0, not known", x.draw(0, 0, 8), OUTSIDE);
        due("seed 1000001", x.draw(1000001, 0, 9), OUTSIDE);
        due("seed 1000000", x.draw(1000000, 0, 9), NONE);
        due("seed 1", x.draw(1, 0, 9), NONE);
        due("day -1", x.draw(1, 0, -1), OUTSIDE);
        due("day 4000", x.draw(1, 0, 4000), OUTSIDE);
        due("not known", x.draw(1, 0, 8), STATE);
        x.blast(0, true);
        due("a blast", x.draw(1, 0, 9), STATE);
    }

    private static void rateOfDaysAhead() {
        DUE.sentence("RATE of a CELL on a DAY: CALM, and what each COUNTED one of DAYS ahead of that would weigh");
        QuakeLists x = weighing(1, 1, 1, 1);
        add(x, 10);
        due("the day ahead of it", x.rate(0, 0, 9, 3999), 1);
        due("its own day", x.rate(0, 0, 10, 3999), 1);
        due("the day behind it", x.rate(0, 0, 11, 3999), 2);
        due("the last day", x.rate(0, 0, 3999, 3999), 2);
        add(x, 10);
        due("both of them", x.rate(0, 0, 11, 3999), 3);
        x.blast(0, true);
        due("without the blast", x.rate(0, 0, 11, 3999), 2);
    }

    private static void rateOfWhatIsKnown() {
        DUE.sentence("(What is not KNOWN does not count.)");
        QuakeLists x = weighing(1, 1, 1, 1);
        x.quake(0, 10, 0, 0, 10, 20);
        due("known on day 19", x.rate(0, 0, 30, 19), 1);
        due("known on day 20", x.rate(0, 0, 30, 20), 2);
        due("known later than the day asked for", x.rate(0, 0, 11, 20), 2);
        due("known on day 0", x.rate(0, 0, 30, 0), 1);
    }

    private static void rateAtEnds() {
        QuakeLists x = weighing(100, 100, 100, 100000);
        due("no quakes", x.rate(0, 0, 0, 0), 100000);
        for (int i = 0; i < 40; i++) {
            x.quake(i % 3, 0, 15, 15, 90, 0);
        }
        due("forty of a million", x.rate(0, 0, 3999, 3999), 40100000);
        due("day 0: none is ahead", x.rate(0, 0, 0, 3999), 100000);
        due("day 1", x.rate(15, 15, 1, 0), 40100000);
    }

    private static void rateRefuses() {
        DUE.sentence("RATE. UNKNOWN: the CELL; OUTSIDE: DAYS");
        QuakeLists x = new QuakeLists();
        due("x -1", x.rate(-1, 0, 0, 0), UNKNOWN);
        due("x 16", x.rate(16, 0, 0, 0), UNKNOWN);
        due("y -1", x.rate(0, -1, 0, 0), UNKNOWN);
        due("y 16, all else outside", x.rate(0, 16, -1, 4000), UNKNOWN);
        due("15, 15", x.rate(15, 15, 0, 0), 100);
        due("day -1", x.rate(0, 0, -1, 0), OUTSIDE);
        due("day 4000", x.rate(0, 0, 4000, 0), OUTSIDE);
        due("known -1", x.rate(0, 0, 0, -1), OUTSIDE);
        due("known 4000", x.rate(0, 0, 0, 4000), OUTSIDE);
    }
}
