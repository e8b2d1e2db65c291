/** Section 1 and promises 1 to 7, sentence by sentence: each that names an edge has a test of its own. */
public final class ListsEdgesTest {
    private static final int UNKNOWN = QuakeLists.UNKNOWN, OUTSIDE = QuakeLists.OUTSIDE;
    private static final int FULL = QuakeLists.FULL, NO = QuakeLists.NO, NONE = QuakeLists.NONE;
    private static final Due DUE = new Due("ListsEdgesTest");

    public static void main(String[] args) {
        nothingYet();
        allNumbersAsAtFirst();
        listsFromZeroToTwo();
        fortyQuakes();
        days();
        cells();
        greatness();
        toldNotAheadOfItsOwnDay();
        blastsCountOnlyInJoining();
        knownIfToldByThen();
        greatnessMayBePutRight();
        orderByDaysThenNumbers();
        orderOfFortyQuakes();
        howFarIsTheGreaterDifference();
        twelveAtMostEach();
        joinedWithAnEmptyList();
        noMoreThanDays();
        noMoreThanFar();
        noMoreThanTenths();
        missIsAllThreeTogether();
        eachInOnePairAtMost();
        theMostPairs();
        theLeastMissInAll();
        theFirstByPartners();
        theFirstQuakeDecides();
        theTwelfthQuakeDecidesLast();
        theLesserNumberFirst();
        noneLast();
        joinedOneAfterAnother();
        blastTellsWhatItWas();
        mendTellsWhatItWas();
        aboutEachWhat();
        setTellsWhatItWas();
        joinAsksForListsThatDiffer();
        joinAsksForAQuakeOfA();
        joinRefusesInOrder();
        DUE.end();
    }

    private static void due(String call, long got, long want) {
        DUE.due(call, got, want);
    }

    /** So many quakes, all alike, in one list. */
    private static void alikeOnes(QuakeLists x, int list, int many) {
        for (int i = 0; i < many; i++) {
            x.quake(list, 5, 0, 0, 40, 5);
        }
    }

    private static void nothingYet() {
        DUE.sentence("No QUAKES, FORECASTS, HOUSES, LAWS");
        QuakeLists x = new QuakeLists();
        for (int what = 0; what <= 5; what++) {
            due("told " + what, x.told(what), 0);
        }
        due("about", x.about(0, 0), UNKNOWN);
        due("blast", x.blast(0, true), UNKNOWN);
        due("mend", x.mend(0, 0), UNKNOWN);
        due("loss", x.loss(0), UNKNOWN);
        due("join, pairs", x.join(0, 1, -1), 0);
        due("join, miss", x.join(0, 1, -2), 0);
        due("join, quake 0", x.join(0, 1, 0), UNKNOWN);
        due("often", x.often(-1, 3999, 0), 0);
        due("whole", x.whole(-1, 3999), NONE);
        due("slope", x.slope(-1, 3999, 0, 0), QuakeLists.LOST - 3);
        due("alike, upper", x.alike(0, 1, 0, 0), 1);
        due("alike, lower", x.alike(0, 1, 0, 1), 1);
        due("share from calm", x.share(0, -1, 3999, 0), QuakeLists.LOST - 1);
        due("mother", x.mother(0, 3999), UNKNOWN);
        due("family", x.family(0, 3999, 0), UNKNOWN);
        due("families", x.families(3999, -1), 0);
        due("family 0", x.families(3999, 0), NONE);
        due("draw", x.draw(1, 0, 3999), UNKNOWN);
        due("rate is calm", x.rate(15, 15, 3999, 3999), 100);
        due("wipe", x.wipe(), 0);
        due("fault", x.fault(), 0);
        due("forecast", x.forecast(), NO);
        due("tells", x.tells(0, 0), UNKNOWN);
        due("score", x.score(0, 0, 0, 0), QuakeLists.LOST - 1);
        due("mixed", x.mixed(0, 0, 0, 0, 0, 0), QuakeLists.LOST - 1);
        due("best", x.best(0, 0, 0, 0, 0), UNKNOWN);
        due("worst", x.worst(3999, 0), NONE);
        due("its loss", x.worst(3999, 1), 0);
        due("curve", x.curve(0), 0);
        due("mean", x.mean(0), 0);
        due("mean of a house", x.mean(1), QuakeLists.LOST - 2);
        due("strengthen", x.strengthen(500), 0);
    }

    private static void allNumbersAsAtFirst() {
        DUE.sentence("all numbers as at first");
        QuakeLists x = new QuakeLists();
        due("DAYS", x.set(0, 0), 1);
        due("FAR", x.set(1, 0), 1);
        due("TENTHS", x.set(2, 0), 5);
        due("CALM", x.set(3, 1), 100);
        due("FALL", x.set(4, 0), 5);
        for (int step = 0; step <= 9; step++) {
            due("PRODUCE " + step, x.step(0, step, 1), 0);
            for (int kind = 0; kind <= 3; kind++) {
                due("DAMAGE " + kind + " " + step, x.damage(kind, step, 1), 0);
            }
        }
        for (int step = 0; step <= 7; step++) {
            due("FADE " + step, x.step(1, step, 1), 0);
            due("SPREAD " + step, x.step(2, step, 1), 0);
        }
        QuakeLists other = new QuakeLists();
        due("another object's CALM", other.told(13), 100);
        due("another object's PRODUCE", other.step(0, 0, 1), 0);
        due("another object's DAMAGE", other.damage(0, 0, 1), 0);
    }

    private static void listsFromZeroToTwo() {
        DUE.sentence("LISTS 0 to 2");
        QuakeLists x = new QuakeLists();
        due("list -1 is no list to add to", x.quake(-1, 1, 1, 1, 1, 1), UNKNOWN);
        due("list 3", x.quake(3, 1, 1, 1, 1, 1), UNKNOWN);
        due("nothing was added", x.told(0), 0);
        for (int list = 0; list <= 2; list++) {
            due("list " + list, x.quake(list, 1, 1, 1, 1, 1), list);
            due("list " + list + " is told", x.about(list, 0), list);
        }
    }

    private static void fortyQuakes() {
        DUE.sentence("QUAKES, 40 at most, numbered from 0 on");
        QuakeLists x = new QuakeLists();
        for (int i = 0; i < 40; i++) {
            due("quake " + i, x.quake(i % 3, 100 - i, i % 16, 15 - i % 16, 2 * i, 100 + i), i);
        }
        due("the 41st", x.quake(0, 0, 0, 0, 0, 0), FULL);
        due("40 all the same", x.told(0), 40);
        due("there is a quake 39", x.about(39, 1), 61);
        due("there is no quake 40", x.about(40, 1), UNKNOWN);
        due("the first in the order is the last one", x.about(39, 7), 0);
        due("unknown ahead of full", x.quake(3, 0, 0, 0, 0, 0), UNKNOWN);
        due("outside ahead of full", x.quake(0, 4000, 0, 0, 0, 4000), OUTSIDE);
        due("blast 39", x.blast(39, true), 0);
        due("a blast keeps its room", x.quake(0, 0, 0, 0, 0, 0), FULL);
        for (int i = 0; i < 39; i++) {
            due("quake " + i + " is as it was", x.about(i, 5), 100 + i);
        }
    }

    private static void days() {
        DUE.sentence("a DAY (0 to 3999)");
        QuakeLists x = new QuakeLists();
        due("day -1", x.quake(0, -1, 0, 0, 0, 0), OUTSIDE);
        due("day 4000", x.quake(0, 4000, 0, 0, 0, 4000), OUTSIDE);
        due("day 0", x.quake(0, 0, 0, 0, 0, 0), 0);
        due("day 3999", x.quake(0, 3999, 0, 0, 0, 3999), 1);
        due("day 0 is told", x.about(0, 1), 0);
        due("day 3999 is told", x.about(1, 1), 3999);
        due("only what day 0 has is known on day 0", x.often(0, 0, 0), 1);
        due("not yet on day 3998", x.often(0, 3998, 0), 1);
        due("both on day 3999", x.often(0, 3999, 0), 2);
    }

    private static void cells() {
        DUE.sentence("a CELL x, y (0 to 15 both)");
        QuakeLists x = new QuakeLists();
        due("x -1", x.quake(0, 0, -1, 7, 0, 0), UNKNOWN);
        due("x 16", x.quake(0, 0, 16, 7, 0, 0), UNKNOWN);
        due("y -1", x.quake(0, 0, 7, -1, 0, 0), UNKNOWN);
        due("y 16", x.quake(0, 0, 7, 16, 0, 0), UNKNOWN);
        due("0, 0", x.quake(0, 0, 0, 0, 0, 0), 0);
        due("15, 0", x.quake(0, 0, 15, 0, 0, 0), 1);
        due("0, 15", x.quake(0, 0, 0, 15, 0, 0), 2);
        due("15, 15", x.quake(0, 0, 15, 15, 0, 0), 3);
        due("x of 15, 0", x.about(1, 2), 15);
        due("y of 15, 0", x.about(1, 3), 0);
        due("x of 0, 15", x.about(2, 2), 0);
        due("y of 0, 15", x.about(2, 3), 15);
    }

    private static void greatness() {
        DUE.sentence("a GREATNESS (0 to 90, tenths)");
        QuakeLists x = new QuakeLists();
        due("-1", x.quake(0, 0, 0, 0, -1, 0), OUTSIDE);
        due("91", x.quake(0, 0, 0, 0, 91, 0), OUTSIDE);
        due("0", x.quake(0, 0, 0, 0, 0, 0), 0);
        due("90", x.quake(0, 0, 0, 0, 90, 0), 1);
        due("0 is told", x.about(0, 4), 0);
        due("90 is told", x.about(1, 4), 90);
    }

    private static void toldNotAheadOfItsOwnDay() {
        DUE.sentence("the DAY on which it was TOLD (not ahead of its own)");
        QuakeLists x = new QuakeLists();
        due("the day ahead", x.quake(0, 50, 0, 0, 0, 49), OUTSIDE);
        due("its own day", x.quake(0, 50, 0, 0, 0, 50), 0);
        due("the day behind", x.quake(0, 50, 0, 0, 0, 51), 1);
        due("the last day", x.quake(0, 50, 0, 0, 0, 3999), 2);
        due("behind the last day", x.quake(0, 50, 0, 0, 0, 4000), OUTSIDE);
        due("its day is the last one", x.quake(0, 3999, 0, 0, 0, 3999), 3);
        due("its day is the last one, told ahead", x.quake(0, 3999, 0, 0, 0, 3998), OUTSIDE);
        due("told below day 0", x.quake(0, 0, 0, 0, 0, -1), OUTSIDE);
        due("told on 51", x.about(1, 5), 51);
    }

    /** Two quakes of list 0 on days 1 and 2, the second one a blast; one like it in list 1. */
    private static void blastsCountOnlyInJoining() {
        DUE.sentence("One may be a BLAST: then it counts only in joining");
        QuakeLists x = new QuakeLists();
        x.quake(0, 1, 0, 0, 30, 1);
        x.quake(0, 2, 0, 0, 50, 2);
        x.quake(1, 2, 0, 0, 50, 2);
        x.step(0, 5, 100);
        x.step(0, 3, 100);
        x.step(1, 1, 100);
        x.step(1, 0, 100);
        x.step(2, 0, 100);
        Sample.forecast(x, "9,50>0:700;20");
        due("before: joined", x.join(0, 1, 1), 2);
        due("before: often", x.often(0, 9, 50), 1);
        due("it was none", x.blast(1, true), 0);
        due("joined all the same", x.join(0, 1, 1), 2);
        due("joined the other way", x.join(1, 0, 2), 1);
        due("it fills list 0", x.told(0), 3);
        due("often", x.often(0, 9, 0), 1);
        due("whole", x.whole(0, 9), 30);
        due("slope from 50", x.slope(0, 9, 50, 0), QuakeLists.LOST - 3);
        due("alike: one and one, one of them great", x.alike(1, 0, 50, 1), 2);
        due("share of a blast", x.share(1, 0, 9, 0), QuakeLists.LOST - 3);
        due("share from a blast", x.share(2, 1, 9, 0), 0);
        due("mother of a blast", x.mother(1, 9), QuakeLists.STATE);
        due("no blast is a mother", x.mother(2, 9), 0);
        due("family of a blast", x.family(1, 9, 0), QuakeLists.STATE);
        due("how many in the family", x.family(0, 9, 1), 2);
        due("draw of a blast", x.draw(1, 1, 9), QuakeLists.STATE);
        due("families", x.families(9, -1), 1);
        due("rate: calm and quake 2", x.rate(0, 0, 3, 9), 100 + 1000000);
        x.blast(2, true);
        due("tells", x.tells(0, 3), 20);
        due("score of a calm day", x.score(0, 50, 2, 2), 400);
        due("worst", x.worst(9, 0), 0);
        due("two blasts joined", x.join(0, 1, 1), 2);
        x.blast(1, false);
        due("none after all: often", x.often(0, 9, 0), 2);
        due("none after all: tells", x.tells(0, 3), 700);
    }

    private static void knownIfToldByThen() {
        DUE.sentence("A QUAKE is KNOWN on a DAY, if it was TOLD by then");
        QuakeLists x = new QuakeLists();
        x.quake(0, 10, 0, 0, 30, 20);
        x.house(0, 0, 0, 100, 0);
        x.damage(0, 3, 50);
        x.step(0, 3, 1);
        x.step(1, 5, 1);
        x.step(2, 0, 1);
        due("often on its own day", x.often(0, 10, 0), 0);
        due("often on day 19", x.often(0, 19, 0), 0);
        due("often on day 20", x.often(0, 20, 0), 1);
        due("whole on day 19", x.whole(0, 19), NONE);
        due("whole on day 20", x.whole(0, 20), 30);
        due("slope on day 19", x.slope(0, 19, 0, 0), QuakeLists.LOST - 3);
        due("slope on day 20", x.slope(0, 20, 30, 0), 2);
        due("share on day 19", x.share(0, -1, 19, 0), QuakeLists.LOST - 3);
        due("share on day 20", x.share(0, -1, 20, 0), 1);
        due("mother on day 19", x.mother(0, 19), QuakeLists.STATE);
        due("mother on day 20", x.mother(0, 20), NONE);
        due("family on day 19", x.family(0, 19, 1), QuakeLists.STATE);
        due("family on day 20", x.family(0, 20, 1), 1);
        due("families on day 19", x.families(19, -1), 0);
        due("families on day 20", x.families(20, -1), 1);
        due("draw on day 19", x.draw(1, 0, 19), QuakeLists.STATE);
        due("draw on day 20", x.draw(1, 0, 20), NONE);
        due("rate as known on day 19", x.rate(0, 0, 26, 19), 100);
        due("rate as known on day 20", x.rate(0, 0, 26, 20), 101);
        due("worst on day 19", x.worst(19, 0), NONE);
        due("worst on day 20", x.worst(20, 0), 0);
        due("its loss on day 19", x.worst(19, 1), 0);
        due("its loss on day 20", x.worst(20, 1), 50);
    }

    private static void greatnessMayBePutRight() {
        DUE.sentence("Its GREATNESS may be put right");
        QuakeLists x = new QuakeLists();
        x.quake(0, 1, 0, 0, 30, 1);
        x.quake(1, 1, 0, 0, 36, 1);
        due("too far apart", x.join(0, 1, 0), NONE);
        due("to 31", x.mend(0, 31), 30);
        due("near enough", x.join(0, 1, 0), 1);
        due("often with 31", x.often(0, 1, 31), 1);
        due("to 91", x.mend(0, 91), OUTSIDE);
        due("to -1", x.mend(0, -1), OUTSIDE);
        due("as it was", x.about(0, 4), 31);
        due("the other one is as it was", x.about(1, 4), 36);
        due("to 90", x.mend(0, 90), 31);
        due("to 0", x.mend(0, 0), 90);
        due("quake 2", x.mend(2, 5), UNKNOWN);
        due("quake 2 to 91", x.mend(2, 91), UNKNOWN);
        x.blast(0, true);
        due("a blast's, too", x.mend(0, 7), 0);
        due("it stays a blast", x.about(0, 6), 1);
    }

    private static void orderByDaysThenNumbers() {
        DUE.sentence("THE ORDER: by DAYS, then numbers");
        QuakeLists x = new QuakeLists();
        x.quake(0, 20, 0, 0, 0, 20);
        due("alone", x.about(0, 7), 0);
        x.quake(2, 20, 0, 0, 90, 20);
        x.quake(1, 19, 0, 0, 0, 3999);
        x.quake(0, 21, 0, 0, 0, 21);
        x.quake(0, 19, 0, 0, 0, 19);
        int[] place = {2, 3, 0, 4, 1};
        for (int quake = 0; quake < 5; quake++) {
            due("place of " + quake, x.about(quake, 7), place[quake]);
        }
        x.blast(2, true);
        due("a blast has a place, too", x.about(2, 7), 0);
        due("and others behind it", x.about(4, 7), 1);
    }

    private static void orderOfFortyQuakes() {
        QuakeLists x = new QuakeLists();
        for (int i = 0; i < 40; i++) {
            x.quake(0, 39 - i, 0, 0, 0, 39);
        }
        for (int i = 0; i < 40; i++) {
            due("place of " + i + ", each ahead of all others", x.about(i, 7), 39 - i);
        }
        QuakeLists y = new QuakeLists();
        alikeOnes(y, 1, 40);
        for (int i = 0; i < 40; i++) {
            due("place of " + i + ", all on one day", y.about(i, 7), i);
        }
    }

    /** FAR is 2: what is farther by one of both differences is too far, whichever it is. */
    private static void howFarIsTheGreaterDifference() {
        DUE.sentence("HOW FAR two CELLS are: the greater one of both differences, by size");
        int[][] cells = {
            {9, 7, 2}, {5, 7, 2}, {7, 9, 2}, {7, 5, 2}, {9, 9, 2}, {5, 5, 2}, {9, 6, 2}, {6, 9, 2}, {7, 7, 0}, {8, 7, 1}
        };
        for (int[] cell : cells) {
            QuakeLists x = new QuakeLists();
            x.set(1, 2);
            x.quake(0, 1, 7, 7, 0, 1);
            x.quake(1, 1, cell[0], cell[1], 0, 1);
            due("miss of " + cell[0] + ", " + cell[1], x.join(0, 1, -2), cell[2]);
            due("pairs of " + cell[0] + ", " + cell[1], x.join(0, 1, -1), 1);
        }
        int[][] farOnes = {{10, 7}, {4, 7}, {7, 10}, {7, 4}, {10, 10}, {4, 9}, {8, 4}};
        for (int[] cell : farOnes) {
            QuakeLists x = new QuakeLists();
            x.set(1, 2);
            x.quake(0, 1, 7, 7, 0, 1);
            x.quake(1, 1, cell[0], cell[1], 0, 1);
            due("pairs of " + cell[0] + ", " + cell[1], x.join(0, 1, -1), 0);
        }
    }

    private static void twelveAtMostEach() {
        DUE.sentence("JOINED are LISTS a and b (12 QUAKES at most each); NO: one has more than 12");
        QuakeLists x = new QuakeLists();
        alikeOnes(x, 0, 12);
        alikeOnes(x, 1, 12);
        due("12 and 12", x.join(0, 1, -1), 12);
        due("the last one", x.join(0, 1, 11), 23);
        alikeOnes(x, 2, 13);
        due("13 in the third list", x.join(0, 1, -1), 12);
        due("13 in b", x.join(0, 2, -1), NO);
        due("13 in a", x.join(2, 0, -1), NO);
        due("13 in a, miss", x.join(2, 0, -2), NO);
        due("13 in a, a quake of a", x.join(2, 0, 24), NO);
        x.blast(24, true);
        due("a blast counts in joining", x.join(2, 0, -1), NO);
        alikeOnes(x, 0, 1);
        due("13 and 12", x.join(0, 1, -1), NO);
        due("12 and 13", x.join(1, 0, -1), NO);
        due("13 and 13", x.join(0, 2, -1), NO);
    }

    private static void joinedWithAnEmptyList() {
        QuakeLists x = new QuakeLists();
        alikeOnes(x, 0, 12);
        due("12 and none: pairs", x.join(0, 1, -1), 0);
        due("12 and none: miss", x.join(0, 1, -2), 0);
        due("12 and none: partner", x.join(0, 1, 11), NONE);
        due("none and 12: pairs", x.join(1, 0, -1), 0);
        due("none and none: pairs", x.join(1, 2, -1), 0);
        due("none and none: miss", x.join(1, 2, -2), 0);
    }

    /** One pair that differs by so much: pairs if the setting is that, none if it is one less. */
    private static void differBy(int which, int most, int day, int cell, int greatness) {
        QuakeLists x = new QuakeLists();
        x.quake(0, 100, 7, 7, 50, 100);
        x.quake(1, 100 + day, 7 + cell, 7, 50 + greatness, 200);
        int apart = Math.abs(day + cell + greatness);
        for (int v = 0; v <= most; v++) {
            x.set(which, v);
            due("set " + which + " to " + v + ", differ by " + apart, x.join(0, 1, -1), v >= apart ? 1 : 0);
            due("the other way", x.join(1, 0, 1), v >= apart ? 0 : NONE);
        }
    }

    private static void noMoreThanDays() {
        DUE.sentence("if their DAYS differ by no more than DAYS (0 to 10; 1 at first)");
        for (int by = -11; by <= 11; by++) {
            differBy(0, 10, by, 0, 0);
        }
        QuakeLists x = new QuakeLists();
        x.quake(0, 100, 7, 7, 50, 100);
        x.quake(1, 102, 7, 7, 50, 102);
        x.quake(2, 101, 7, 7, 50, 101);
        due("2 days at first", x.join(0, 1, -1), 0);
        due("1 day at first", x.join(0, 2, -1), 1);
        due("11 is too much", x.set(0, 11), OUTSIDE);
        due("-1 is too little", x.set(0, -1), OUTSIDE);
        due("still 1 day", x.join(0, 1, -1), 0);
    }

    private static void noMoreThanFar() {
        DUE.sentence("they are no farther than FAR (0 to 5; 1)");
        for (int by = -6; by <= 6; by++) {
            differBy(1, 5, 0, by, 0);
        }
        QuakeLists x = new QuakeLists();
        x.quake(0, 100, 7, 7, 50, 100);
        x.quake(1, 100, 7, 9, 50, 100);
        x.quake(2, 100, 7, 8, 50, 100);
        due("2 cells at first", x.join(0, 1, -1), 0);
        due("1 cell at first", x.join(0, 2, -1), 1);
        due("6 is too much", x.set(1, 6), OUTSIDE);
        due("-1 is too little", x.set(1, -1), OUTSIDE);
        due("still 1 cell", x.join(0, 1, -1), 0);
    }

    private static void noMoreThanTenths() {
        DUE.sentence("GREATNESS differs by no more than TENTHS (0 to 20; 5)");
        for (int by = -21; by <= 21; by++) {
            differBy(2, 20, 0, 0, by);
        }
        QuakeLists x = new QuakeLists();
        x.quake(0, 100, 7, 7, 50, 100);
        x.quake(1, 100, 7, 7, 56, 100);
        x.quake(2, 100, 7, 7, 45, 100);
        due("6 tenths at first", x.join(0, 1, -1), 0);
        due("5 tenths at first", x.join(0, 2, -1), 1);
        due("21 is too much", x.set(2, 21), OUTSIDE);
        due("-1 is too little", x.set(2, -1), OUTSIDE);
        due("still 5 tenths", x.join(0, 1, -1), 0);
    }

    private static void missIsAllThreeTogether() {
        DUE.sentence("MISS: all three differences together");
        QuakeLists x = new QuakeLists();
        x.set(0, 10);
        x.set(1, 5);
        x.set(2, 20);
        x.quake(0, 100, 7, 7, 50, 100);
        x.quake(1, 90, 12, 9, 70, 100);
        due("the greatest miss: 10 and 5 and 20", x.join(0, 1, -2), 35);
        due("it is no less the other way", x.join(1, 0, -2), 35);
        x.quake(0, 100, 7, 7, 50, 100);
        x.quake(1, 110, 2, 2, 30, 110);
        due("of two pairs", x.join(0, 1, -2), 70);
        x.set(2, 19);
        due("none fits", x.join(0, 1, -2), 0);
        QuakeLists full = new QuakeLists();
        full.set(0, 10);
        full.set(1, 5);
        full.set(2, 20);
        for (int i = 0; i < 12; i++) {
            full.quake(0, 100, 7, 7, 50, 100);
            full.quake(1, 110, 2, 7, 70, 110);
        }
        due("of twelve pairs", full.join(0, 1, -2), 420);
        due("twelve pairs with the greatest miss", full.join(0, 1, -1), 12);
    }

    private static void eachInOnePairAtMost() {
        DUE.sentence("Pairs, each QUAKE in one at most");
        QuakeLists x = new QuakeLists();
        alikeOnes(x, 0, 1);
        alikeOnes(x, 1, 3);
        due("one of a, three of b", x.join(0, 1, -1), 1);
        due("three of a, one of b", x.join(1, 0, -1), 1);
        due("the first one has it", x.join(1, 0, 1), 0);
        due("the second has none", x.join(1, 0, 2), NONE);
        due("nor has the third", x.join(1, 0, 3), NONE);
    }

    /** 0 fits 2 and 3, 1 fits 2 alone: 0 must leave its nearest partner to 1. */
    private static void theMostPairs() {
        DUE.sentence("the most");
        QuakeLists x = new QuakeLists();
        x.quake(0, 10, 0, 0, 40, 10);
        x.quake(0, 10, 0, 0, 36, 10);
        x.quake(1, 10, 0, 0, 40, 10);
        x.quake(1, 10, 0, 0, 45, 10);
        due("pairs", x.join(0, 1, -1), 2);
        due("miss is more, but so are pairs", x.join(0, 1, -2), 9);
        due("partner of 0", x.join(0, 1, 0), 3);
        due("partner of 1", x.join(0, 1, 1), 2);
    }

    /** What is nearest to one alone may be dearer in all. */
    private static void theLeastMissInAll() {
        DUE.sentence("of several with the least MISS in all");
        QuakeLists x = new QuakeLists();
        x.quake(0, 10, 0, 0, 40, 10);
        x.quake(0, 10, 0, 0, 41, 10);
        x.quake(1, 10, 0, 0, 40, 10);
        x.quake(1, 10, 0, 0, 36, 10);
        due("miss: 0 and 5, or 4 and 1", x.join(0, 1, -2), 5);
        due("both are as little: the first by partners", x.join(0, 1, 0), 2);
        x.mend(1, 45);
        x.mend(3, 39);
        // 0 and 6 (too far), or 1 and 5
        due("miss: 1 and 5", x.join(0, 1, -2), 6);
        due("partner of 0", x.join(0, 1, 0), 3);
        x.mend(1, 44);
        x.mend(2, 41);
        // 1 and 5, or 1 and 3: the second
        due("miss: 1 and 3", x.join(0, 1, -2), 4);
        due("partner of 0 then", x.join(0, 1, 0), 3);
        due("partner of 1 then", x.join(0, 1, 1), 2);
    }

    /** Miss is 3 either way: a's first quake by number decides, though it is the later one by day. */
    private static void theFirstByPartners() {
        DUE.sentence("then the first by partners of a's QUAKES in order of numbers");
        QuakeLists x = new QuakeLists();
        x.quake(0, 12, 0, 0, 40, 12);
        x.quake(0, 11, 0, 0, 40, 11);
        x.quake(1, 12, 0, 0, 41, 12);
        x.quake(1, 12, 0, 0, 41, 12);
        due("miss", x.join(0, 1, -2), 3);
        due("partner of 0, the later one", x.join(0, 1, 0), 2);
        due("partner of 1", x.join(0, 1, 1), 3);
        due("the other way: partner of 2", x.join(1, 0, 2), 0);
        due("the other way: partner of 3", x.join(1, 0, 3), 1);
    }

    /**
     * By greatness they stand in a row: 1, 5, 3, 7, 0, 8, 2, 6, 4. Four pairs with a miss of 19 leave 1 or 4 over:
     * 0's partner is the lesser one if it is 1 that has none, though all others would be better off by the other way.
     */
    private static void theFirstQuakeDecides() {
        QuakeLists x = new QuakeLists();
        int[] ofA = {29, 10, 39, 19, 48};
        int[] ofB = {15, 43, 24, 34};
        for (int greatness : ofA) {
            x.quake(0, 5, 0, 0, greatness, 5);
        }
        for (int greatness : ofB) {
            x.quake(1, 5, 0, 0, greatness, 5);
        }
        due("pairs", x.join(0, 1, -1), 4);
        due("miss", x.join(0, 1, -2), 19);
        int[] partner = {7, NONE, 8, 5, 6};
        for (int quake = 0; quake < 5; quake++) {
            due("partner of " + quake, x.join(0, 1, quake), partner[quake]);
        }
    }

    /** Eleven of a are too far off, the twelfth is as near to all twelve of b. */
    private static void theTwelfthQuakeDecidesLast() {
        QuakeLists x = new QuakeLists();
        alikeOnes(x, 1, 12);
        for (int i = 0; i < 11; i++) {
            x.quake(0, 5, 9, 9, 40, 5);
        }
        alikeOnes(x, 0, 1);
        due("the first of b", x.join(0, 1, 23), 0);
        due("the eleventh of a", x.join(0, 1, 22), NONE);
        x.mend(0, 41);
        due("the second of b is nearer", x.join(0, 1, 23), 1);
        for (int i = 1; i < 11; i++) {
            x.mend(i, 41);
        }
        due("the last of b is nearer", x.join(0, 1, 23), 11);
    }

    private static void theLesserNumberFirst() {
        DUE.sentence("(that with the lesser number first");
        QuakeLists x = new QuakeLists();
        x.quake(1, 13, 0, 0, 40, 13);
        x.quake(1, 11, 0, 0, 40, 11);
        x.quake(0, 12, 0, 0, 40, 12);
        due("0 and 1 are as near: the lesser number, not the first day", x.join(0, 1, 2), 0);
        x.mend(0, 41);
        due("unless its miss is more", x.join(0, 1, 2), 1);
    }

    /** Three of a for two of b, all alike: the first two get them. */
    private static void noneLast() {
        DUE.sentence("none last)");
        QuakeLists x = new QuakeLists();
        alikeOnes(x, 0, 3);
        alikeOnes(x, 1, 2);
        due("partner of 0", x.join(0, 1, 0), 3);
        due("partner of 1", x.join(0, 1, 1), 4);
        due("partner of 2", x.join(0, 1, 2), NONE);
        x.mend(0, 41);
        due("0 is left over, as its miss is more", x.join(0, 1, 0), NONE);
        due("partner of 1 then", x.join(0, 1, 1), 3);
        due("partner of 2 then", x.join(0, 1, 2), 4);
        QuakeLists full = new QuakeLists();
        alikeOnes(full, 1, 11);
        alikeOnes(full, 0, 12);
        for (int i = 0; i < 11; i++) {
            due("of twelve for eleven, partner of " + i, full.join(0, 1, 11 + i), i);
        }
        due("of twelve for eleven, partner of the last", full.join(0, 1, 22), NONE);
    }

    /** What was joined before leaves no trace: every answer is that of an object that was never asked before. */
    private static void joinedOneAfterAnother() {
        QuakeLists x = new QuakeLists();
        joinable(x);
        int[][] lists = {{0, 1}, {1, 2}, {2, 0}, {1, 0}, {0, 2}, {2, 1}, {0, 1}};
        int[] tenths = {20, 3, 5, 0, 20, 1};
        for (int v : tenths) {
            for (int[] pair : lists) {
                QuakeLists fresh = new QuakeLists();
                joinable(fresh);
                x.set(2, v);
                fresh.set(2, v);
                String call = "join " + pair[0] + " " + pair[1] + ", tenths " + v;
                due(call + ", pairs", x.join(pair[0], pair[1], -1), fresh.join(pair[0], pair[1], -1));
                due(call + ", miss", x.join(pair[0], pair[1], -2), fresh.join(pair[0], pair[1], -2));
                for (int quake = pair[0]; quake < 30; quake += 9) {
                    due(call + ", " + quake, x.join(pair[0], pair[1], quake), fresh.join(pair[0], pair[1], quake));
                }
            }
        }
    }

    /** Ten in each list, of many differences. */
    private static void joinable(QuakeLists x) {
        x.set(0, 10);
        x.set(1, 5);
        for (int i = 0; i < 30; i++) {
            x.quake(i % 3, i * i % 7, i % 5, i * 7 % 4, 40 + i * 11 % 23, 20);
        }
    }

    private static void blastTellsWhatItWas() {
        DUE.sentence("A QUAKE is a BLAST, or none: whether it was (1, 0). UNKNOWN");
        QuakeLists x = new QuakeLists();
        due("none there", x.blast(0, true), UNKNOWN);
        alikeOnes(x, 0, 1);
        due("none, as it was", x.blast(0, false), 0);
        due("a blast", x.blast(0, true), 0);
        due("a blast, as it was", x.blast(0, true), 1);
        due("counted once", x.told(5), 1);
        due("none", x.blast(0, false), 1);
        due("none again", x.blast(0, false), 0);
        due("quake 1", x.blast(1, true), UNKNOWN);
        due("quake -1", x.blast(-1, true), UNKNOWN);
        due("no blasts", x.told(5), 0);
        alikeOnes(x, 0, 1);
        due("a new quake is none, though its number was named", x.about(1, 6), 0);
    }

    private static void mendTellsWhatItWas() {
        DUE.sentence("GREATNESS is put right: which it was. UNKNOWN; OUTSIDE");
        QuakeLists x = new QuakeLists();
        due("none there", x.mend(0, 50), UNKNOWN);
        alikeOnes(x, 0, 2);
        due("the same once more", x.mend(1, 40), 40);
        due("0", x.mend(1, 0), 40);
        due("90", x.mend(1, 90), 0);
        due("91", x.mend(1, 91), OUTSIDE);
        due("-1", x.mend(1, -1), OUTSIDE);
        due("quake 2, 90", x.mend(2, 90), UNKNOWN);
        due("quake 2, 91", x.mend(2, 91), UNKNOWN);
        due("quake -1, -1", x.mend(-1, -1), UNKNOWN);
        due("told", x.about(1, 4), 90);
        due("the other one", x.about(0, 4), 40);
    }

    private static void aboutEachWhat() {
        DUE.sentence("Of a QUAKE: 0 LIST, 1 DAY, 2 x, 3 y, 4 GREATNESS, 5 the DAY it was TOLD, 6, 7. UNKNOWN; OUTSIDE");
        QuakeLists x = new QuakeLists();
        due("none there", x.about(0, 0), UNKNOWN);
        due("none there, and no such what", x.about(0, 8), UNKNOWN);
        x.quake(2, 3998, 15, 14, 89, 3999);
        int[] want = {2, 3998, 15, 14, 89, 3999, 0, 0};
        for (int what = 0; what <= 7; what++) {
            due("what " + what, x.about(0, what), want[what]);
        }
        due("what -1", x.about(0, -1), OUTSIDE);
        due("what 8", x.about(0, 8), OUTSIDE);
        due("quake 1", x.about(1, 0), UNKNOWN);
        due("quake -1", x.about(-1, 0), UNKNOWN);
    }

    private static void setTellsWhatItWas() {
        DUE.sentence("0 DAYS, 1 FAR, 2 TENTHS, 3 CALM, 4 FALL: which it was. OUTSIDE");
        QuakeLists x = new QuakeLists();
        int[] first = {1, 1, 5, 100, 5};
        int[] least = {0, 0, 0, 1, 0};
        int[] most = {10, 5, 20, 100000, 20};
        for (int which = 0; which <= 4; which++) {
            due("below " + which, x.set(which, least[which] - 1), OUTSIDE);
            due("above " + which, x.set(which, most[which] + 1), OUTSIDE);
            due("least " + which, x.set(which, least[which]), first[which]);
            due("most " + which, x.set(which, most[which]), least[which]);
            due("most again " + which, x.set(which, most[which]), most[which]);
        }
        due("which -1", x.set(-1, 1), OUTSIDE);
        due("which 5", x.set(5, 1), OUTSIDE);
        for (int which = 0; which <= 4; which++) {
            due("told " + which, x.told(10 + which), most[which]);
        }
    }

    private static void joinAsksForListsThatDiffer() {
        DUE.sentence("UNKNOWN: LISTS, they are one");
        QuakeLists x = new QuakeLists();
        for (int a = -1; a <= 3; a++) {
            for (int b = -1; b <= 3; b++) {
                boolean fits = a >= 0 && a <= 2 && b >= 0 && b <= 2 && a != b;
                due("join " + a + " " + b, x.join(a, b, -1), fits ? 0 : UNKNOWN);
            }
        }
    }

    private static void joinAsksForAQuakeOfA() {
        DUE.sentence("pairs (i = -1), MISS in all (i = -2), the partner of QUAKE i of a (NONE). QUAKE i is not of a");
        QuakeLists x = new QuakeLists();
        alikeOnes(x, 0, 1);
        alikeOnes(x, 1, 1);
        alikeOnes(x, 2, 1);
        x.mend(1, 41);
        due("pairs", x.join(0, 1, -1), 1);
        due("miss", x.join(0, 1, -2), 1);
        due("-3", x.join(0, 1, -3), UNKNOWN);
        due("of a", x.join(0, 1, 0), 1);
        due("of b", x.join(0, 1, 1), UNKNOWN);
        due("of neither", x.join(0, 1, 2), UNKNOWN);
        due("of a, as the lists are", x.join(1, 0, 1), 0);
        due("there is no quake 3", x.join(0, 1, 3), UNKNOWN);
        x.mend(1, 46);
        due("of a, with no partner", x.join(0, 1, 0), NONE);
    }

    private static void joinRefusesInOrder() {
        DUE.sentence("the first of these that fits: UNKNOWN .. NO");
        QuakeLists x = new QuakeLists();
        alikeOnes(x, 0, 13);
        alikeOnes(x, 1, 1);
        due("13 in a", x.join(0, 1, 12), NO);
        due("13 in a, a quake of b", x.join(0, 1, 13), UNKNOWN);
        due("13 in a, no quake", x.join(0, 1, 14), UNKNOWN);
        due("13 in a, -3", x.join(0, 1, -3), UNKNOWN);
        due("13 in a, with itself", x.join(0, 0, -1), UNKNOWN);
        due("13 in b, a quake of b", x.join(1, 0, 0), UNKNOWN);
        due("13 in b, a quake of a", x.join(1, 0, 13), NO);
    }
}
