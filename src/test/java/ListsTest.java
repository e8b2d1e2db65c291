import java.util.Random;

/** Promises 1 to 7: a new object, quakes, blasts, mending, the order, settings, joining. */
public final class ListsTest {
    private static final Due DUE = new Due("ListsTest");

    public static void main(String[] args) {
        newObject();
        quakes();
        blasts();
        mending();
        about();
        settings();
        joinRefusals();
        joinPrefersPairs();
        joinPrefersLeastMiss();
        joinPrefersFirstPartners();
        joinEdges();
        joinOfFullLists();
        DUE.end();
    }

    private static void due(String call, long got, long want) {
        DUE.due(call, got, want);
    }

    private static void newObject() {
        QuakeLists x = new QuakeLists();
        for (int what = 0; what <= 5; what++) {
            due("new: told " + what, x.told(what), 0);
        }
        int[] first = {1, 1, 5, 100, 5};
        for (int which = 0; which < 5; which++) {
            due("new: told " + (10 + which), x.told(10 + which), first[which]);
        }
        for (int step = 0; step < 10; step++) {
            due("new: produce", x.step(0, step, 1), 0);
            due("new: fade", x.step(1, step, 1), step < 8 ? 0 : QuakeLists.OUTSIDE);
            due("new: spread", x.step(2, step, 1), step < 8 ? 0 : QuakeLists.OUTSIDE);
            for (int kind = 0; kind < 4; kind++) {
                due("new: damage", x.damage(kind, step, 1), 0);
            }
        }
        due("new: often", x.often(-1, 3999, 0), 0);
        due("new: whole", x.whole(-1, 3999), QuakeLists.NONE);
        due("new: join", x.join(0, 1, -1), 0);
        due("new: miss", x.join(0, 1, -2), 0);
        due("new: families", x.families(3999, -1), 0);
        due("new: tells", x.tells(0, 0), QuakeLists.UNKNOWN);
        due("new: mean", x.mean(0), 0);
        due("new: strengthen", x.strengthen(500), 0);
        due("new: two objects share nothing", x.set(0, 5), 1);
        due("new: two objects share nothing", new QuakeLists().set(0, 5), 1);
    }

    private static void quakes() {
        QuakeLists x = new QuakeLists();
        due("quake, least numbers", x.quake(0, 0, 0, 0, 0, 0), 0);
        due("quake, greatest numbers", x.quake(2, 3999, 15, 15, 90, 3999), 1);
        due("quake, list below", x.quake(-1, 0, 0, 0, 0, 0), QuakeLists.UNKNOWN);
        due("quake, list above", x.quake(3, 0, 0, 0, 0, 0), QuakeLists.UNKNOWN);
        due("quake, x below", x.quake(0, 0, -1, 0, 0, 0), QuakeLists.UNKNOWN);
        due("quake, x above", x.quake(0, 0, 16, 0, 0, 0), QuakeLists.UNKNOWN);
        due("quake, y below", x.quake(0, 0, 0, -1, 0, 0), QuakeLists.UNKNOWN);
        due("quake, y above", x.quake(0, 0, 0, 16, 0, 0), QuakeLists.UNKNOWN);
        due("quake, day below", x.quake(0, -1, 0, 0, 0, 0), QuakeLists.OUTSIDE);
        due("quake, day above", x.quake(0, 4000, 0, 0, 0, 4000), QuakeLists.OUTSIDE);
        due("quake, greatness below", x.quake(0, 0, 0, 0, -1, 0), QuakeLists.OUTSIDE);
        due("quake, greatness above", x.quake(0, 0, 0, 0, 91, 0), QuakeLists.OUTSIDE);
        due("quake, told ahead of its day", x.quake(0, 5, 0, 0, 0, 4), QuakeLists.OUTSIDE);
        due("quake, told above", x.quake(0, 5, 0, 0, 0, 4000), QuakeLists.OUTSIDE);
        due("quake, unknown ahead of outside", x.quake(3, -1, 0, 0, 91, 0), QuakeLists.UNKNOWN);
        due("quake, unknown cell ahead of outside", x.quake(0, -1, 16, 0, 91, 0), QuakeLists.UNKNOWN);
        due("quake, refused ones are not there", x.told(0), 2);
        for (int i = 2; i < 40; i++) {
            due("quake " + i, x.quake(1, 7, 1, 1, 10, 7), i);
        }
        due("quake 41", x.quake(1, 7, 1, 1, 10, 7), QuakeLists.FULL);
        due("quake, unknown ahead of full", x.quake(1, 7, 1, 16, 10, 7), QuakeLists.UNKNOWN);
        due("quake, outside ahead of full", x.quake(1, 7, 1, 1, 91, 7), QuakeLists.OUTSIDE);
        due("quake, told", x.told(0), 40);
    }

    private static void blasts() {
        QuakeLists x = new QuakeLists();
        due("blast of none", x.blast(0, true), QuakeLists.UNKNOWN);
        x.quake(0, 1, 0, 0, 30, 1);
        x.quake(0, 1, 0, 0, 30, 1);
        due("blast", x.blast(1, true), 0);
        due("blast again", x.blast(1, true), 1);
        due("one blast", x.told(5), 1);
        due("about it", x.about(1, 6), 1);
        due("about the other", x.about(0, 6), 0);
        due("it is not counted", x.often(0, 1, 0), 1);
        due("no blast after all", x.blast(1, false), 1);
        due("it is counted", x.often(0, 1, 0), 2);
        due("still none", x.blast(1, false), 0);
        due("blast below", x.blast(-1, true), QuakeLists.UNKNOWN);
        due("blast above", x.blast(2, true), QuakeLists.UNKNOWN);
        due("no blasts", x.told(5), 0);
        x.blast(0, true);
        x.blast(1, true);
        due("two blasts", x.told(5), 2);
    }

    private static void mending() {
        QuakeLists x = new QuakeLists();
        due("mend of none, and outside", x.mend(0, 91), QuakeLists.UNKNOWN);
        x.quake(0, 1, 0, 0, 30, 1);
        due("mend", x.mend(0, 90), 30);
        due("mend to the least", x.mend(0, 0), 90);
        due("mend above", x.mend(0, 91), QuakeLists.OUTSIDE);
        due("mend below", x.mend(0, -1), QuakeLists.OUTSIDE);
        due("mend of one below", x.mend(-1, 5), QuakeLists.UNKNOWN);
        due("mended", x.about(0, 4), 0);
    }

    private static void about() {
        QuakeLists x = new QuakeLists();
        x.quake(2, 50, 3, 14, 77, 60);
        x.quake(1, 40, 4, 5, 12, 41);
        x.quake(0, 50, 6, 7, 8, 50);
        x.quake(0, 3, 6, 7, 8, 50);
        x.quake(0, 40, 6, 7, 8, 50);
        int[] first = {2, 50, 3, 14, 77, 60, 0, 3};
        for (int what = 0; what < 8; what++) {
            due("about 0 " + what, x.about(0, what), first[what]);
        }
        due("about 3 7", x.about(3, 7), 0);
        due("about 1 7", x.about(1, 7), 1);
        due("about 4 7", x.about(4, 7), 2);
        due("about 2 7", x.about(2, 7), 4);
        x.blast(3, true);
        due("a blast keeps its place", x.about(3, 7), 0);
        due("others keep theirs", x.about(1, 7), 1);
        due("about 0 8", x.about(0, 8), QuakeLists.OUTSIDE);
        due("about 0 -1", x.about(0, -1), QuakeLists.OUTSIDE);
        due("about 5 8", x.about(5, 8), QuakeLists.UNKNOWN);
        due("about -1 0", x.about(-1, 0), QuakeLists.UNKNOWN);
    }

    private static void settings() {
        QuakeLists x = new QuakeLists();
        int[] first = {1, 1, 5, 100, 5};
        int[] least = {0, 0, 0, 1, 0};
        int[] most = {10, 5, 20, 100000, 20};
        for (int which = 0; which < 5; which++) {
            due("set to the most " + which, x.set(which, most[which]), first[which]);
            due("set above " + which, x.set(which, most[which] + 1), QuakeLists.OUTSIDE);
            due("set to the least " + which, x.set(which, least[which]), most[which]);
            due("set below " + which, x.set(which, least[which] - 1), QuakeLists.OUTSIDE);
            due("set, told " + which, x.told(10 + which), least[which]);
        }
        due("set -1", x.set(-1, 1), QuakeLists.OUTSIDE);
        due("set 5", x.set(5, 1), QuakeLists.OUTSIDE);
        due("told 6", x.told(6), QuakeLists.OUTSIDE);
        due("told 9", x.told(9), QuakeLists.OUTSIDE);
        due("told 15", x.told(15), QuakeLists.OUTSIDE);
        due("told -1", x.told(-1), QuakeLists.OUTSIDE);
    }

    private static void joinRefusals() {
        QuakeLists x = new QuakeLists();
        for (int i = 0; i < 12; i++) {
            x.quake(0, i, 0, 0, 0, i);
        }
        x.quake(1, 0, 0, 0, 0, 0);
        due("join with twelve", x.join(0, 1, -1), 1);
        due("join with twelve, the other way", x.join(1, 0, 12), 0);
        due("join -1", x.join(-1, 1, -1), QuakeLists.UNKNOWN);
        due("join 3", x.join(0, 3, -1), QuakeLists.UNKNOWN);
        due("join one list", x.join(1, 1, -1), QuakeLists.UNKNOWN);
        due("join, quake of b", x.join(0, 1, 12), QuakeLists.UNKNOWN);
        due("join, no quake", x.join(0, 1, 13), QuakeLists.UNKNOWN);
        due("join, -3", x.join(0, 1, -3), QuakeLists.UNKNOWN);
        x.quake(0, 0, 0, 0, 0, 0);
        due("join with thirteen", x.join(0, 1, -1), QuakeLists.NO);
        due("join with thirteen in b", x.join(1, 0, -2), QuakeLists.NO);
        due("join with thirteen, a quake", x.join(0, 1, 0), QuakeLists.NO);
        due("join, unknown ahead of no", x.join(0, 1, 12), QuakeLists.UNKNOWN);
        due("join of the others", x.join(1, 2, -1), 0);
    }

    /** The near pair alone would leave one over: two farther pairs are more. */
    private static void joinPrefersPairs() {
        QuakeLists x = new QuakeLists();
        x.set(2, 10);
        x.quake(0, 5, 0, 0, 40, 5);
        x.quake(0, 5, 0, 0, 30, 5);
        x.quake(1, 5, 0, 0, 40, 5);
        x.quake(1, 5, 0, 0, 50, 5);
        due("two pairs", x.join(0, 1, -1), 2);
        due("their miss", x.join(0, 1, -2), 20);
        due("partner of 0", x.join(0, 1, 0), 3);
        due("partner of 1", x.join(0, 1, 1), 2);
        x.set(2, 9);
        due("one pair", x.join(0, 1, -1), 1);
        due("its miss", x.join(0, 1, -2), 0);
        due("partner of 1 then", x.join(0, 1, 1), QuakeLists.NONE);
    }

    private static void joinPrefersLeastMiss() {
        QuakeLists x = new QuakeLists();
        x.quake(1, 11, 1, 0, 41, 11);
        x.quake(0, 10, 0, 0, 40, 10);
        x.quake(1, 10, 0, 0, 42, 10);
        due("miss: 2 against 1 + 1 + 1", x.join(0, 1, -2), 2);
        due("the nearer one", x.join(0, 1, 1), 2);
        x.mend(2, 44);
        due("miss: 4 against 3", x.join(0, 1, -2), 3);
        due("the other one", x.join(0, 1, 1), 0);
    }

    /** All alike: partners go by numbers, and whoever is left over is the last one. */
    private static void joinPrefersFirstPartners() {
        QuakeLists x = new QuakeLists();
        x.quake(1, 3, 0, 0, 40, 3);
        x.quake(0, 3, 0, 0, 40, 3);
        x.quake(0, 3, 0, 0, 40, 3);
        x.quake(1, 3, 0, 0, 40, 3);
        x.quake(0, 3, 0, 0, 40, 3);
        due("first of a", x.join(0, 1, 1), 0);
        due("second of a", x.join(0, 1, 2), 3);
        due("third of a", x.join(0, 1, 4), QuakeLists.NONE);
        due("first of b", x.join(1, 0, 0), 1);
        due("second of b", x.join(1, 0, 3), 2);
        due("two pairs", x.join(1, 0, -1), 2);
    }

    private static void joinEdges() {
        QuakeLists x = new QuakeLists();
        x.quake(0, 10, 5, 5, 40, 4000 - 1);
        x.quake(1, 11, 6, 4, 45, 11);
        due("all three just near enough, whenever told", x.join(0, 1, -2), 7);
        x.set(0, 0);
        due("days", x.join(0, 1, -1), 0);
        x.set(0, 1);
        x.set(1, 0);
        due("far", x.join(0, 1, -1), 0);
        x.set(1, 1);
        x.set(2, 4);
        due("tenths", x.join(0, 1, 0), QuakeLists.NONE);
        due("no miss", x.join(0, 1, -2), 0);
        x.set(2, 5);
        x.blast(0, true);
        x.blast(1, true);
        due("blasts are joined", x.join(0, 1, 0), 1);
    }

    private static void joinOfFullLists() {
        for (int seed = 1; seed <= 30; seed++) {
            Random lots = new Random(seed);
            QuakeLists x = new QuakeLists();
            Oracle oracle = new Oracle();
            int wide = 1 + lots.nextInt(8);
            for (int i = 0; i < 24; i++) {
                int day = lots.nextInt(wide);
                int cell = lots.nextInt(3);
                int greatness = lots.nextInt(1 + 2 * wide);
                x.quake(i % 2, day, cell, 0, greatness, day);
                oracle.quake(i % 2, day, cell, 0, greatness, day);
            }
            for (int i = -2; i < 24; i++) {
                due("full lists " + seed + ", " + i, x.join(0, 1, i), i < 0 || i % 2 == 0 ? oracle.join(0, 1, i) : -1);
            }
        }
    }
}
