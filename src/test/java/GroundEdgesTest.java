/** Section 5 and promises 28 to 36, sentence by sentence: each that names an edge has a test of its own. */
public final class GroundEdgesTest {
    private static final int UNKNOWN = QuakeLists.UNKNOWN, OUTSIDE = QuakeLists.OUTSIDE;
    private static final int FULL = QuakeLists.FULL, NONE = QuakeLists.NONE;
    private static final long LOST = QuakeLists.LOST;
    private static final Due DUE = new Due("GroundEdgesTest");

    public static void main(String[] args) {
        fallFromZeroToTwenty();
        shakingNotBelowZero();
        shakingByHowFar();
        twelveHouses();
        kindsFromZeroToTwo();
        worthFromZeroToTenThousand();
        priceFromZeroToHundred();
        housesRefuse();
        damageOfAKind();
        damageByShakingByTen();
        damageFromZeroToHundred();
        lossIsCutForEachHouse();
        lossWithoutHouses();
        lossByABlast();
        lossRefuses();
        worstIsTheFirstInTheOrder();
        worstOfNoLoss();
        worstOfNone();
        worstRefuses();
        twelveLaws();
        howOftenFromOneToThousand();
        lawsRefuse();
        curveOfMoreThanL();
        curveAtEnds();
        meanOfOftenTimesLoss();
        meanOfStrengthenedHouses();
        meanOfTwelveHouses();
        purseFromZeroToFiveHundred();
        pricesAreNoMoreThanThePurse();
        meanIsLeast();
        ofSeveralTheCheapest();
        thenTheLeastAsBits();
        strengthenedWithoutHousesOrLaws();
        strengthenedOfTwelveHouses();
        strengthenedIsOnlyTold();
        toldOfEachWhat();
        DUE.end();
    }

    private static void due(String call, long got, long want) {
        DUE.due(call, got, want);
    }

    /** Damage of every kind is one hundredth for each step, and ten for strengthened ones. */
    private static QuakeLists stepped() {
        QuakeLists x = new QuakeLists();
        for (int step = 0; step <= 9; step++) {
            for (int kind = 0; kind <= 2; kind++) {
                x.damage(kind, step, 10 * step + kind);
            }
            x.damage(3, step, step);
        }
        return x;
    }

    private static void fallFromZeroToTwenty() {
        DUE.sentence("GREATNESS less FALL (0 to 20; 5 at first) times how far");
        QuakeLists x = stepped();
        x.house(0, 0, 0, 100, 0);
        x.quake(0, 1, 2, 1, 90, 1);
        due("5 at first: 80", x.loss(0), 80);
        due("-1", x.set(4, -1), OUTSIDE);
        due("21", x.set(4, 21), OUTSIDE);
        due("still 5", x.loss(0), 80);
        due("0", x.set(4, 0), 5);
        due("no fall: 90", x.loss(0), 90);
        due("20", x.set(4, 20), 0);
        due("fall 20: 50", x.loss(0), 50);
        x.law(2, 1, 90, 1);
        due("a law's, too", x.mean(0), 50);
    }

    private static void shakingNotBelowZero() {
        DUE.sentence("SHAKING .. not below 0");
        QuakeLists x = stepped();
        x.damage(0, 0, 77);
        x.house(0, 0, 0, 100, 0);
        x.quake(0, 1, 2, 0, 11, 1);
        due("1", x.loss(0), 77);
        x.mend(0, 10);
        due("0", x.loss(0), 77);
        x.mend(0, 9);
        due("1 below 0", x.loss(0), 77);
        x.set(4, 20);
        x.quake(0, 1, 15, 15, 0, 1);
        due("300 below 0", x.loss(1), 77);
        x.mend(0, 50);
        due("10", x.loss(0), 10);
        x.mend(0, 49);
        due("9", x.loss(0), 77);
        x.law(15, 15, 0, 2);
        due("a law's, too", x.mean(0), 154);
    }

    private static void shakingByHowFar() {
        DUE.sentence("how far: the greater one of both differences, by size");
        int[][] cells = {
            {7, 7, 90}, {8, 7, 80}, {6, 7, 80}, {7, 8, 80}, {7, 6, 80},
            {9, 8, 70}, {6, 9, 70}, {5, 5, 70}, {0, 6, 20}, {15, 15, 10}
        };
        for (int[] cell : cells) {
            QuakeLists x = stepped();
            x.set(4, 10);
            x.house(7, 7, 0, 100, 0);
            x.quake(0, 1, cell[0], cell[1], 90, 1);
            due("from " + cell[0] + ", " + cell[1], x.loss(0), cell[2]);
        }
    }

    private static void twelveHouses() {
        DUE.sentence("HOUSES, 12 at most, numbered from 0 on; FULL");
        QuakeLists x = stepped();
        x.law(3, 3, 90, 1);
        for (int i = 0; i < 12; i++) {
            due("house " + i, x.house(3, 3, 0, 100, 1), i);
        }
        due("the 13th", x.house(3, 3, 0, 100, 1), FULL);
        due("twelve all the same", x.told(3), 12);
        due("it brings no loss", x.mean(0), 12 * 90);
        due("unknown ahead of full", x.house(3, 16, 0, 100, 1), UNKNOWN);
        due("outside ahead of full", x.house(3, 3, 3, 100, 1), OUTSIDE);
    }

    private static void kindsFromZeroToTwo() {
        DUE.sentence("a KIND (0 to 2)");
        QuakeLists x = stepped();
        due("-1", x.house(0, 0, -1, 100, 0), OUTSIDE);
        due("3: only strengthened ones are", x.house(0, 0, 3, 100, 0), OUTSIDE);
        x.quake(0, 1, 0, 0, 50, 1);
        due("none was built", x.told(3), 0);
        due("0", x.house(0, 0, 0, 100, 0), 0);
        due("loss of kind 0", x.loss(0), 50);
        due("1", x.house(0, 0, 1, 100, 0), 1);
        due("and of kind 1", x.loss(0), 50 + 51);
        due("2", x.house(0, 0, 2, 100, 0), 2);
        due("and of kind 2", x.loss(0), 50 + 51 + 52);
    }

    private static void worthFromZeroToTenThousand() {
        DUE.sentence("WORTH (0 to 10000)");
        QuakeLists x = stepped();
        x.quake(0, 1, 0, 0, 50, 1);
        due("-1", x.house(0, 0, 0, -1, 0), OUTSIDE);
        due("10001", x.house(0, 0, 0, 10001, 0), OUTSIDE);
        due("0", x.house(0, 0, 0, 0, 0), 0);
        due("no loss", x.loss(0), 0);
        due("10000", x.house(0, 0, 0, 10000, 0), 1);
        due("half of it", x.loss(0), 5000);
    }

    private static void priceFromZeroToHundred() {
        DUE.sentence("a PRICE to strengthen them (0 to 100)");
        QuakeLists x = stepped();
        x.law(0, 0, 50, 1);
        due("-1", x.house(0, 0, 0, 100, -1), OUTSIDE);
        due("101", x.house(0, 0, 0, 100, 101), OUTSIDE);
        due("100", x.house(0, 0, 0, 100, 100), 0);
        due("0", x.house(0, 0, 0, 100, 0), 1);
        due("purse 0", x.strengthen(0), 2);
        due("purse 99", x.strengthen(99), 2);
        due("purse 100", x.strengthen(100), 3);
    }

    private static void housesRefuse() {
        DUE.sentence("HOUSES: their number. UNKNOWN: the CELL; OUTSIDE; FULL");
        QuakeLists x = new QuakeLists();
        due("x -1", x.house(-1, 0, 0, 0, 0), UNKNOWN);
        due("x 16", x.house(16, 0, 0, 0, 0), UNKNOWN);
        due("y -1", x.house(0, -1, 0, 0, 0), UNKNOWN);
        due("y 16, all else outside", x.house(0, 16, 3, 10001, 101), UNKNOWN);
        due("0, 0", x.house(0, 0, 0, 0, 0), 0);
        due("15, 15", x.house(15, 15, 2, 10000, 100), 1);
        due("two", x.told(3), 2);
    }

    private static void damageOfAKind() {
        DUE.sentence("DAMAGE of a KIND (3: strengthened ones); DAMAGE: which it was. OUTSIDE");
        QuakeLists x = new QuakeLists();
        due("kind -1", x.damage(-1, 0, 0), OUTSIDE);
        due("kind 4", x.damage(4, 0, 0), OUTSIDE);
        for (int kind = 0; kind <= 3; kind++) {
            for (int step = 0; step <= 9; step++) {
                due("at first", x.damage(kind, step, 10 * kind + step), 0);
            }
            due("step -1", x.damage(kind, -1, 0), OUTSIDE);
            due("step 10", x.damage(kind, 10, 0), OUTSIDE);
        }
        for (int kind = 0; kind <= 3; kind++) {
            for (int step = 0; step <= 9; step++) {
                due("each by itself", x.damage(kind, step, 0), 10 * kind + step);
            }
        }
    }

    private static void damageByShakingByTen() {
        DUE.sentence("by SHAKING by 10 (0 to 9)");
        QuakeLists x = stepped();
        x.damage(0, 0, 5);
        x.house(0, 0, 0, 100, 0);
        x.quake(0, 1, 0, 0, 0, 1);
        for (int greatness = 0; greatness <= 90; greatness++) {
            x.mend(0, greatness);
            due("shaking " + greatness, x.loss(0), greatness < 10 ? 5 : greatness / 10 * 10);
        }
    }

    private static void damageFromZeroToHundred() {
        DUE.sentence("0 to 100 hundredths (0 at first)");
        QuakeLists x = new QuakeLists();
        x.house(0, 0, 0, 10000, 0);
        x.quake(0, 1, 0, 0, 90, 1);
        due("0 at first", x.loss(0), 0);
        due("-1", x.damage(0, 9, -1), OUTSIDE);
        due("101", x.damage(0, 9, 101), OUTSIDE);
        due("still 0", x.loss(0), 0);
        due("100", x.damage(0, 9, 100), 0);
        due("all of it", x.loss(0), 10000);
        due("1", x.damage(0, 9, 1), 100);
        due("a hundredth", x.loss(0), 100);
        due("0", x.damage(0, 9, 0), 1);
        due("nothing", x.loss(0), 0);
    }

    private static void lossIsCutForEachHouse() {
        DUE.sentence("LOSS: the sum over HOUSES of WORTH times DAMAGE by 100, cut each");
        QuakeLists x = new QuakeLists();
        x.damage(0, 5, 50);
        x.quake(0, 1, 0, 0, 50, 1);
        x.house(0, 0, 0, 1, 0);
        due("50 by 100", x.loss(0), 0);
        x.house(0, 0, 0, 1, 0);
        due("50 by 100 twice is 0 all the same", x.loss(0), 0);
        x.house(0, 0, 0, 2, 0);
        due("and 100 by 100", x.loss(0), 1);
        x.house(0, 0, 0, 199, 0);
        due("and 9950 by 100", x.loss(0), 100);
        x.law(0, 0, 50, 10);
        due("cut ahead of how often", x.mean(0), 1000);
    }

    private static void lossWithoutHouses() {
        QuakeLists x = stepped();
        x.quake(0, 1, 0, 0, 90, 1);
        x.law(0, 0, 90, 1000);
        due("loss", x.loss(0), 0);
        due("curve", x.curve(0), 0);
        due("mean", x.mean(0), 0);
    }

    private static void lossByABlast() {
        DUE.sentence("LOSS by a QUAKE (a BLAST, too)");
        QuakeLists x = stepped();
        x.house(0, 0, 0, 100, 0);
        x.quake(0, 1, 0, 0, 90, 3999);
        due("a quake, whenever told", x.loss(0), 90);
        x.blast(0, true);
        due("a blast", x.loss(0), 90);
    }

    private static void lossRefuses() {
        DUE.sentence("LOSS by a QUAKE. UNKNOWN");
        QuakeLists x = stepped();
        due("none there", x.loss(0), UNKNOWN);
        x.quake(0, 1, 0, 0, 90, 1);
        due("0", x.loss(0), 0);
        due("1", x.loss(1), UNKNOWN);
        due("-1", x.loss(-1), UNKNOWN);
    }

    private static void worstIsTheFirstInTheOrder() {
        DUE.sentence("with the greatest LOSS (what = 0; the first in THE ORDER; NONE)");
        QuakeLists x = stepped();
        x.house(0, 0, 0, 100, 0);
        x.quake(0, 9, 0, 0, 50, 9);
        x.quake(1, 9, 0, 0, 50, 9);
        due("of one day by numbers", x.worst(9, 0), 0);
        x.quake(2, 8, 0, 0, 59, 9);
        due("by days: 59 shakes as 50 does", x.worst(9, 0), 2);
        x.quake(2, 7, 0, 0, 49, 9);
        due("an earlier one of less", x.worst(9, 0), 2);
        x.quake(2, 10, 0, 0, 60, 10);
        due("not known yet", x.worst(9, 0), 2);
        due("a later one of more", x.worst(10, 0), 4);
        due("its loss", x.worst(10, 1), 60);
        due("the loss of what is known", x.worst(9, 1), 50);
        x.blast(4, true);
        due("no blast", x.worst(10, 0), 2);
    }

    private static void worstOfNoLoss() {
        QuakeLists x = stepped();
        x.quake(0, 9, 0, 0, 50, 9);
        x.quake(0, 8, 0, 0, 10, 8);
        due("all losses are 0: the first in the order", x.worst(9, 0), 1);
        due("its loss", x.worst(9, 1), 0);
    }

    private static void worstOfNone() {
        DUE.sentence("NONE), its LOSS (1; 0)");
        QuakeLists x = stepped();
        due("no quakes", x.worst(3999, 0), NONE);
        due("no quakes, loss", x.worst(3999, 1), 0);
        x.house(0, 0, 0, 100, 0);
        x.quake(0, 9, 0, 0, 50, 12);
        due("not known", x.worst(11, 0), NONE);
        due("not known, loss", x.worst(11, 1), 0);
        due("known", x.worst(12, 0), 0);
        due("known, loss", x.worst(12, 1), 50);
        x.blast(0, true);
        due("a blast", x.worst(12, 0), NONE);
        due("a blast, loss", x.worst(12, 1), 0);
    }

    private static void worstRefuses() {
        DUE.sentence("worst: OUTSIDE");
        QuakeLists x = new QuakeLists();
        due("day -1", x.worst(-1, 0), OUTSIDE);
        due("day 4000", x.worst(4000, 0), OUTSIDE);
        due("day 0", x.worst(0, 0), NONE);
        due("what -1", x.worst(0, -1), OUTSIDE);
        due("what 2", x.worst(0, 2), OUTSIDE);
        due("what 1", x.worst(3999, 1), 0);
    }

    private static void twelveLaws() {
        DUE.sentence("LAWS, 12 at most; A LAW: how many; FULL");
        QuakeLists x = stepped();
        x.house(3, 3, 0, 100, 1);
        for (int i = 1; i <= 12; i++) {
            due("law " + i, x.law(3, 3, 90, 1), i);
        }
        due("the 13th", x.law(3, 3, 90, 1), FULL);
        due("twelve all the same", x.told(4), 12);
        due("it brings no loss", x.mean(0), 12 * 90);
        due("it is no more often", x.curve(0), 12);
        due("unknown ahead of full", x.law(-1, 3, 90, 1), UNKNOWN);
        due("outside ahead of full", x.law(3, 3, 91, 1), OUTSIDE);
        due("outside ahead of full", x.law(3, 3, 90, 0), OUTSIDE);
    }

    private static void howOftenFromOneToThousand() {
        DUE.sentence("how often (1 to 1000)");
        QuakeLists x = stepped();
        x.house(3, 3, 0, 100, 1);
        due("0", x.law(3, 3, 50, 0), OUTSIDE);
        due("1001", x.law(3, 3, 50, 1001), OUTSIDE);
        due("none is there", x.told(4), 0);
        due("1", x.law(3, 3, 50, 1), 1);
        due("curve", x.curve(0), 1);
        due("1000", x.law(3, 3, 50, 1000), 2);
        due("curve of both", x.curve(0), 1001);
        due("mean of both", x.mean(0), 50050);
    }

    private static void lawsRefuse() {
        DUE.sentence("A LAW. UNKNOWN: the CELL; OUTSIDE; FULL");
        QuakeLists x = new QuakeLists();
        due("x -1", x.law(-1, 0, 0, 1), UNKNOWN);
        due("x 16", x.law(16, 0, 0, 1), UNKNOWN);
        due("y -1", x.law(0, -1, 0, 1), UNKNOWN);
        due("y 16, all else outside", x.law(0, 16, 91, 0), UNKNOWN);
        due("greatness -1", x.law(0, 0, -1, 1), OUTSIDE);
        due("greatness 91", x.law(0, 0, 91, 1), OUTSIDE);
        due("0, 0, greatness 0", x.law(0, 0, 0, 1), 1);
        due("15, 15, greatness 90", x.law(15, 15, 90, 1000), 2);
        due("two", x.told(4), 2);
    }

    private static void curveOfMoreThanL() {
        DUE.sentence("CURVE at L: how often all LAWS together whose LOSS is more than L");
        QuakeLists x = stepped();
        x.house(0, 0, 0, 100, 0);
        x.law(0, 0, 10, 3);
        x.law(0, 0, 50, 40);
        x.law(0, 0, 90, 500);
        x.law(0, 0, 0, 1000);
        due("0: not those without loss", x.curve(0), 543);
        due("9", x.curve(9), 543);
        due("10", x.curve(10), 540);
        due("49", x.curve(49), 540);
        due("50", x.curve(50), 500);
        due("89", x.curve(89), 500);
        due("90", x.curve(90), 0);
        x.damage(0, 0, 1);
        due("0, when all bring loss", x.curve(0), 1543);
        due("1", x.curve(1), 543);
    }

    private static void curveAtEnds() {
        DUE.sentence("CURVE (L 0 to 1000000). OUTSIDE");
        QuakeLists x = new QuakeLists();
        x.damage(0, 9, 100);
        x.set(4, 0);
        due("-1", x.curve(-1), OUTSIDE);
        due("0", x.curve(0), 0);
        due("1000000", x.curve(1000000), 0);
        due("1000001", x.curve(1000001), OUTSIDE);
        for (int i = 0; i < 12; i++) {
            x.house(i, 0, 0, 10000, 0);
            x.law(0, i, 90, 1000);
        }
        due("the greatest loss less 1", x.curve(119999), 12000);
        due("the greatest loss", x.curve(120000), 0);
        due("1000000 of the greatest", x.curve(1000000), 0);
    }

    private static void meanOfOftenTimesLoss() {
        DUE.sentence("MEAN: the sum of how often times LOSS");
        QuakeLists x = stepped();
        due("none", x.mean(0), 0);
        x.house(0, 0, 0, 100, 0);
        due("no laws", x.mean(0), 0);
        x.law(0, 0, 50, 3);
        x.law(0, 0, 20, 1000);
        due("3 times 50, 1000 times 20", x.mean(0), 20150);
        x.quake(0, 1, 0, 0, 90, 1);
        due("quakes are no laws", x.mean(0), 20150);
        QuakeLists full = new QuakeLists();
        full.damage(2, 9, 100);
        full.set(4, 0);
        for (int i = 0; i < 12; i++) {
            full.house(0, i, 2, 10000, 100);
            full.law(i, 0, 90, 1000);
        }
        due("the greatest", full.mean(0), 1440000000L);
        full.damage(3, 9, 100);
        due("the greatest, all strengthened for nothing", full.mean(4095), 1440000000L);
    }

    private static void meanOfStrengthenedHouses() {
        DUE.sentence("MEAN, some HOUSES (bits) being strengthened. OUTSIDE (LOST less 2)");
        QuakeLists x = stepped();
        due("no houses: 0", x.mean(0), 0);
        due("no houses: 1", x.mean(1), LOST - 2);
        due("no houses: -1", x.mean(-1), LOST - 2);
        x.law(0, 0, 50, 1);
        x.house(0, 0, 0, 100, 0);
        due("one house: 1", x.mean(1), 5);
        due("one house: 2", x.mean(2), LOST - 2);
        x.house(0, 0, 1, 1000, 0);
        due("two houses: 0", x.mean(0), 50 + 510);
        due("two houses: 1", x.mean(1), 5 + 510);
        due("two houses: 2", x.mean(2), 50 + 50);
        due("two houses: 3", x.mean(3), 5 + 50);
        due("two houses: 4", x.mean(4), LOST - 2);
        due("two houses: -1", x.mean(-1), LOST - 2);
        due("the least number", x.mean(Integer.MIN_VALUE), LOST - 2);
        due("the greatest number", x.mean(Integer.MAX_VALUE), LOST - 2);
    }

    private static void meanOfTwelveHouses() {
        QuakeLists x = stepped();
        x.law(0, 0, 50, 1);
        for (int i = 0; i < 12; i++) {
            x.house(0, 0, 0, 100, 0);
        }
        due("none", x.mean(0), 600);
        for (int i = 0; i < 12; i++) {
            due("house " + i, x.mean(1 << i), 555);
        }
        due("all", x.mean(4095), 60);
        due("a thirteenth", x.mean(4096), LOST - 2);
    }

    private static void purseFromZeroToFiveHundred() {
        DUE.sentence("STRENGTHENED for a purse (0 to 500). OUTSIDE");
        QuakeLists x = stepped();
        x.law(0, 0, 50, 1);
        for (int i = 0; i < 6; i++) {
            x.house(0, 0, 0, 100, 100);
        }
        due("-1", x.strengthen(-1), OUTSIDE);
        due("501", x.strengthen(501), OUTSIDE);
        due("0", x.strengthen(0), 0);
        due("500", x.strengthen(500), 31);
        due("499", x.strengthen(499), 15);
    }

    private static void pricesAreNoMoreThanThePurse() {
        DUE.sentence("a set of HOUSES whose PRICES are no more");
        QuakeLists x = stepped();
        x.law(0, 0, 50, 1);
        x.house(0, 0, 0, 100, 7);
        x.house(0, 0, 0, 100, 11);
        due("6", x.strengthen(6), 0);
        due("7", x.strengthen(7), 1);
        due("10", x.strengthen(10), 1);
        due("17", x.strengthen(17), 1);
        due("18", x.strengthen(18), 3);
        x.house(0, 0, 0, 100, 0);
        due("free for an empty purse", x.strengthen(0), 4);
        due("free beside others", x.strengthen(18), 7);
    }

    /** Strengthened ones lose 5 of 100 here; what loses less already is better left. */
    private static void meanIsLeast() {
        DUE.sentence("so that MEAN is least");
        QuakeLists x = stepped();
        x.law(0, 0, 50, 1);
        x.house(0, 0, 0, 300, 60);
        x.house(0, 0, 0, 200, 30);
        x.house(0, 0, 0, 200, 30);
        due("two of 200 are more than one of 300", x.strengthen(60), 6);
        due("one of 300 is more than one of 200", x.strengthen(90), 3);
        x.damage(0, 5, 4);
        due("strengthening does harm", x.strengthen(500), 0);
        x.damage(0, 5, 5);
        due("strengthening does nothing", x.strengthen(500), 0);
        x.damage(0, 5, 6);
        due("strengthening helps", x.strengthen(500), 7);
        x.law(0, 0, 40, 1);
        x.damage(0, 4, 3);
        due("it helps as much as it harms", x.strengthen(500), 0);
        x.law(0, 0, 50, 1);
        due("it helps more than it harms", x.strengthen(500), 7);
    }

    private static void ofSeveralTheCheapest() {
        DUE.sentence("of several the cheapest");
        QuakeLists x = stepped();
        x.law(0, 0, 50, 1);
        x.house(0, 0, 0, 100, 30);
        x.house(0, 0, 0, 100, 29);
        due("29, not 30", x.strengthen(30), 2);
        x.house(0, 0, 0, 200, 58);
        due("58 or 30 and 29", x.strengthen(59), 4);
        x.house(0, 0, 0, 0, 1);
        due("what brings nothing costs", x.strengthen(59), 4);
    }

    private static void thenTheLeastAsBits() {
        DUE.sentence("then the least as bits");
        QuakeLists x = stepped();
        x.law(0, 0, 50, 1);
        x.house(0, 0, 0, 200, 60);
        x.house(0, 0, 0, 100, 30);
        x.house(0, 0, 0, 100, 30);
        x.house(0, 0, 0, 100, 30);
        due("one of 30", x.strengthen(30), 2);
        due("60 or twice 30: bit 1 is the least", x.strengthen(60), 1);
        due("60 and 30", x.strengthen(90), 3);
        x.house(0, 0, 0, 0, 0);
        due("a free one that brings nothing", x.strengthen(90), 3);
        QuakeLists y = stepped();
        y.law(0, 0, 50, 1);
        y.house(0, 0, 0, 100, 30);
        y.house(0, 0, 0, 100, 30);
        y.house(0, 0, 0, 200, 60);
        due("twice 30 or 60: bits 1 and 2 are the least", y.strengthen(60), 3);
    }

    private static void strengthenedWithoutHousesOrLaws() {
        QuakeLists x = stepped();
        due("no houses, no laws", x.strengthen(500), 0);
        x.house(0, 0, 0, 100, 0);
        due("no laws", x.strengthen(500), 0);
        QuakeLists y = stepped();
        y.law(0, 0, 50, 1);
        due("no houses", y.strengthen(500), 0);
    }

    private static void strengthenedOfTwelveHouses() {
        QuakeLists x = stepped();
        x.law(0, 0, 90, 1000);
        for (int i = 0; i < 12; i++) {
            x.house(0, 0, 0, 100, 40);
        }
        due("all twelve", x.strengthen(480), 4095);
        due("all but the last", x.strengthen(479), 2047);
        due("all twelve for 500", x.strengthen(500), 4095);
        due("the last one's mean", x.mean(2048), 1000 * (11 * 90 + 9));
        QuakeLists y = new QuakeLists();
        y.set(4, 0);
        y.damage(0, 9, 100);
        for (int i = 0; i < 12; i++) {
            y.house(0, 0, 0, i == 11 ? 10000 : 9999, 100);
            y.law(0, 0, 90, 1000);
        }
        due("the last one is worth the most", y.strengthen(100), 2048);
        due("and four others", y.strengthen(500), 2048 + 15);
    }

    private static void strengthenedIsOnlyTold() {
        QuakeLists x = stepped();
        x.law(0, 0, 50, 1);
        x.house(0, 0, 0, 100, 10);
        x.quake(0, 1, 0, 0, 50, 1);
        due("strengthen", x.strengthen(10), 1);
        due("once more", x.strengthen(10), 1);
        due("mean", x.mean(0), 50);
        due("curve", x.curve(49), 1);
        due("loss", x.loss(0), 50);
    }

    private static void toldOfEachWhat() {
        DUE.sentence("0 QUAKES, 1 signs, 2 FORECASTS, 3 HOUSES, 4 LAWS, 5 BLASTS, 10 to 14 what set() sets. OUTSIDE");
        QuakeLists x = new QuakeLists();
        int[] outside = {-1, 6, 7, 8, 9, 15, Integer.MIN_VALUE, Integer.MAX_VALUE};
        for (int what : outside) {
            due("told " + what, x.told(what), OUTSIDE);
        }
        int[] first = {1, 1, 5, 100, 5};
        for (int which = 0; which < 5; which++) {
            due("told " + (10 + which), x.told(10 + which), first[which]);
        }
        QuakeLists full = Sample.FULL.make();
        int[] want = {40, 48, 6, 12, 12, 0};
        for (int what = 0; what <= 5; what++) {
            due("told " + what + " of all there can be", full.told(what), want[what]);
        }
        for (int quake = 0; quake < 40; quake++) {
            full.blast(quake, true);
            due("blasts", full.told(5), quake + 1);
        }
        due("quakes all the same", full.told(0), 40);
    }
}
