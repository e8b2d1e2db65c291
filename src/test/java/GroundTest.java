/** Promises 28 to 36: houses, damage, losses, laws, what to strengthen, what is told. */
public final class GroundTest {
    private static final Due DUE = new Due("GroundTest");
    private static final long OUTSIDE = QuakeLists.LOST - 2;

    public static void main(String[] args) {
        houses();
        damage();
        loss();
        worst();
        laws();
        curveAndMean();
        strengthen();
        strengthenTies();
        told();
        greatestLosses();
        DUE.end();
    }

    private static void due(String call, long got, long want) {
        DUE.due(call, got, want);
    }

    private static void houses() {
        QuakeLists x = new QuakeLists();
        due("least numbers", x.house(0, 0, 0, 0, 0), 0);
        due("greatest numbers", x.house(15, 15, 2, 10000, 100), 1);
        due("x 16, and outside", x.house(16, 0, 3, 0, 0), QuakeLists.UNKNOWN);
        due("x -1", x.house(-1, 0, 0, 0, 0), QuakeLists.UNKNOWN);
        due("y 16", x.house(0, 16, 0, 0, 0), QuakeLists.UNKNOWN);
        due("y -1", x.house(0, -1, 0, 0, 0), QuakeLists.UNKNOWN);
        due("kind 3", x.house(0, 0, 3, 0, 0), QuakeLists.OUTSIDE);
        due("kind -1", x.house(0, 0, -1, 0, 0), QuakeLists.OUTSIDE);
        due("worth 10001", x.house(0, 0, 0, 10001, 0), QuakeLists.OUTSIDE);
        due("worth -1", x.house(0, 0, 0, -1, 0), QuakeLists.OUTSIDE);
        due("price 101", x.house(0, 0, 0, 0, 101), QuakeLists.OUTSIDE);
        due("price -1", x.house(0, 0, 0, 0, -1), QuakeLists.OUTSIDE);
        for (int i = 2; i < 12; i++) {
            due("house " + i, x.house(1, 1, 1, 1, 1), i);
        }
        due("house 13", x.house(1, 1, 1, 1, 1), QuakeLists.FULL);
        due("unknown ahead of full", x.house(16, 1, 1, 1, 1), QuakeLists.UNKNOWN);
        due("outside ahead of full", x.house(1, 1, 1, 1, 101), QuakeLists.OUTSIDE);
        due("told", x.told(3), 12);
        due("mean of all strengthened", x.mean(4095), 0);
        due("mean above", x.mean(4096), OUTSIDE);
    }

    private static void damage() {
        QuakeLists x = new QuakeLists();
        for (int kind = 0; kind < 4; kind++) {
            due("damage to 100", x.damage(kind, 9, 100), 0);
            due("damage to 0", x.damage(kind, 9, 0), 100);
            due("damage 0", x.damage(kind, 0, 10 + kind), 0);
        }
        for (int kind = 0; kind < 4; kind++) {
            due("damage was", x.damage(kind, 0, 0), 10 + kind);
        }
        due("kind 4", x.damage(4, 0, 0), QuakeLists.OUTSIDE);
        due("kind -1", x.damage(-1, 0, 0), QuakeLists.OUTSIDE);
        due("step 10", x.damage(0, 10, 0), QuakeLists.OUTSIDE);
        due("step -1", x.damage(0, -1, 0), QuakeLists.OUTSIDE);
        due("v 101", x.damage(0, 0, 101), QuakeLists.OUTSIDE);
        due("v -1", x.damage(0, 0, -1), QuakeLists.OUTSIDE);
    }

    /** Damage of kind 0 is its step, of kind 1 ten times that. */
    private static QuakeLists stepped() {
        QuakeLists x = new QuakeLists();
        for (int step = 0; step < 10; step++) {
            x.damage(0, step, step);
            x.damage(1, step, 10 * step);
        }
        return x;
    }

    private static void loss() {
        QuakeLists x = stepped();
        x.house(3, 3, 0, 100, 0);
        x.quake(0, 1, 3, 3, 90, 1);
        x.quake(0, 1, 5, 4, 90, 1);
        due("shaking 90", x.loss(0), 9);
        due("two cells off: 80", x.loss(1), 8);
        x.mend(1, 89);
        due("79", x.loss(1), 7);
        x.mend(1, 9);
        due("below 0", x.loss(1), 0);
        x.damage(0, 0, 50);
        due("not below 0, so step 0", x.loss(1), 50);
        x.set(4, 20);
        due("fall 20, no distance", x.loss(0), 9);
        x.mend(1, 90);
        due("fall 20, two cells: 50", x.loss(1), 5);
        x.house(3, 3, 1, 199, 0);
        x.house(3, 3, 1, 199, 0);
        due("each cut: 199 * 90 by 100 is 179", x.loss(0), 9 + 179 + 179);
        x.blast(0, true);
        due("a blast, too", x.loss(0), 9 + 179 + 179);
        due("quake 2", x.loss(2), QuakeLists.UNKNOWN);
        due("quake -1", x.loss(-1), QuakeLists.UNKNOWN);
    }

    private static void worst() {
        QuakeLists x = stepped();
        due("no quakes", x.worst(3999, 0), QuakeLists.NONE);
        due("no loss", x.worst(3999, 1), 0);
        x.quake(0, 9, 3, 3, 50, 9);
        due("no houses: still the one", x.worst(3999, 0), 0);
        x.house(3, 3, 1, 100, 0);
        x.quake(1, 8, 3, 3, 50, 20);
        x.quake(2, 8, 3, 3, 60, 30);
        due("day 8", x.worst(8, 0), QuakeLists.NONE);
        due("day 8, loss", x.worst(8, 1), 0);
        due("day 19", x.worst(19, 0), 0);
        due("day 20: as great, ahead in the order", x.worst(20, 0), 1);
        due("day 20, loss", x.worst(20, 1), 50);
        due("day 30", x.worst(30, 0), 2);
        due("day 30, loss", x.worst(30, 1), 60);
        x.blast(2, true);
        due("no blast", x.worst(30, 0), 1);
        due("known 4000", x.worst(4000, 0), QuakeLists.OUTSIDE);
        due("known -1", x.worst(-1, 0), QuakeLists.OUTSIDE);
        due("what 2", x.worst(0, 2), QuakeLists.OUTSIDE);
        due("what -1", x.worst(0, -1), QuakeLists.OUTSIDE);
    }

    private static void laws() {
        QuakeLists x = new QuakeLists();
        due("least numbers", x.law(0, 0, 0, 1), 1);
        due("greatest numbers", x.law(15, 15, 90, 1000), 2);
        due("x 16, and outside", x.law(16, 0, 91, 1), QuakeLists.UNKNOWN);
        due("x -1", x.law(-1, 0, 0, 1), QuakeLists.UNKNOWN);
        due("y 16", x.law(0, 16, 0, 1), QuakeLists.UNKNOWN);
        due("y -1", x.law(0, -1, 0, 1), QuakeLists.UNKNOWN);
        due("greatness 91", x.law(0, 0, 91, 1), QuakeLists.OUTSIDE);
        due("greatness -1", x.law(0, 0, -1, 1), QuakeLists.OUTSIDE);
        due("often 0", x.law(0, 0, 0, 0), QuakeLists.OUTSIDE);
        due("often 1001", x.law(0, 0, 0, 1001), QuakeLists.OUTSIDE);
        for (int i = 3; i <= 12; i++) {
            due("law " + i, x.law(1, 1, 1, 1), i);
        }
        due("law 13", x.law(1, 1, 1, 1), QuakeLists.FULL);
        due("unknown ahead of full", x.law(16, 1, 1, 1), QuakeLists.UNKNOWN);
        due("outside ahead of full", x.law(1, 1, 1, 0), QuakeLists.OUTSIDE);
        due("told", x.told(4), 12);
    }

    private static void curveAndMean() {
        QuakeLists x = stepped();
        x.house(3, 3, 1, 100, 5);
        x.house(4, 3, 0, 1000, 5);
        x.law(3, 3, 50, 7);
        x.law(3, 3, 30, 20);
        x.law(10, 10, 10, 500);
        // shaking 50 and 45: 50 + 40; 30 and 25: 30 + 20; nothing
        due("curve 0", x.curve(0), 27);
        due("curve 49", x.curve(49), 27);
        due("curve 50", x.curve(50), 7);
        due("curve 89", x.curve(89), 7);
        due("curve 90", x.curve(90), 0);
        due("curve 1000000", x.curve(1000000), 0);
        due("curve 1000001", x.curve(1000001), QuakeLists.OUTSIDE);
        due("curve -1", x.curve(-1), QuakeLists.OUTSIDE);
        due("mean 0", x.mean(0), 7 * 90 + 20 * 50);
        due("mean 1", x.mean(1), 7 * 40 + 20 * 20);
        due("mean 2", x.mean(2), 7 * 50 + 20 * 30);
        x.damage(3, 4, 1);
        due("mean 3", x.mean(3), 7 * 10);
        due("mean 4", x.mean(4), OUTSIDE);
        due("mean -1", x.mean(-1), OUTSIDE);
        due("strengthening is only asked", x.curve(89), 7);
    }

    private static void strengthen() {
        QuakeLists x = new QuakeLists();
        x.damage(0, 5, 100);
        x.damage(1, 5, 10);
        x.damage(3, 5, 20);
        x.law(0, 0, 50, 10);
        x.house(0, 0, 0, 100, 30);
        x.house(0, 0, 0, 70, 20);
        x.house(0, 0, 0, 60, 20);
        x.house(0, 0, 1, 1000, 0);
        due("purse 0: the free one would do harm", x.strengthen(0), 0);
        due("purse 19", x.strengthen(19), 0);
        due("purse 20", x.strengthen(20), 2);
        due("purse 39", x.strengthen(39), 1);
        due("purse 40: two lesser ones beat the greatest", x.strengthen(40), 6);
        due("purse 50", x.strengthen(50), 3);
        due("purse 70", x.strengthen(70), 7);
        due("purse 500", x.strengthen(500), 7);
        due("purse 501", x.strengthen(501), QuakeLists.OUTSIDE);
        due("purse -1", x.strengthen(-1), QuakeLists.OUTSIDE);
        due("nothing is changed", x.mean(0), 10 * (100 + 70 + 60 + 100));
    }

    private static void strengthenTies() {
        QuakeLists x = new QuakeLists();
        x.damage(0, 5, 100);
        x.law(0, 0, 50, 1);
        x.house(0, 0, 0, 10, 30);
        x.house(0, 0, 0, 10, 20);
        x.house(0, 0, 0, 10, 20);
        x.house(15, 15, 0, 10, 0);
        x.house(0, 0, 0, 0, 0);
        due("the cheapest, then the least; what brings nothing stays", x.strengthen(30), 2);
        due("two: the cheapest", x.strengthen(50), 6);
        x.house(0, 0, 0, 20, 40);
        due("as much for as much: the least as bits", x.strengthen(40), 6);
        x.house(0, 0, 0, 5, 0);
        due("a free one that helps", x.strengthen(0), 64);
    }

    private static void told() {
        QuakeLists x = new QuakeLists();
        x.quake(0, 0, 0, 0, 0, 0);
        x.quake(0, 0, 0, 0, 0, 0);
        x.blast(1, true);
        x.say('1');
        x.forecast();
        x.say('1');
        x.say('2');
        x.say('3');
        x.house(0, 0, 0, 0, 0);
        x.house(0, 0, 0, 0, 0);
        x.house(0, 0, 0, 0, 0);
        x.house(0, 0, 0, 0, 0);
        for (int i = 0; i < 5; i++) {
            x.law(0, 0, 0, 1);
        }
        int[] want = {2, 3, 1, 4, 5, 1};
        for (int what = 0; what < 6; what++) {
            due("told " + what, x.told(what), want[what]);
        }
        for (int which = 0; which < 5; which++) {
            x.set(which, 2 + which % 4);
            due("told " + (10 + which), x.told(10 + which), 2 + which % 4);
        }
        int[] outside = {-1, 6, 7, 8, 9, 15, Integer.MIN_VALUE, Integer.MAX_VALUE};
        for (int what : outside) {
            due("told " + what, x.told(what), QuakeLists.OUTSIDE);
        }
    }

    private static void greatestLosses() {
        QuakeLists x = new QuakeLists();
        x.damage(0, 9, 100);
        x.set(4, 0);
        for (int i = 0; i < 12; i++) {
            x.house(i, i, 0, 10000, 100);
            x.law(i, i, 90, 1000);
        }
        x.quake(0, 0, 15, 15, 90, 0);
        due("loss", x.loss(0), 120000);
        due("curve", x.curve(119999), 12000);
        due("curve", x.curve(120000), 0);
        due("mean", x.mean(0), 1440000000L);
        due("mean of all", x.mean(4095), 0);
        due("strengthen five of them", x.strengthen(500), 31);
    }
}
