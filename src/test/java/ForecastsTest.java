/** Promises 20 to 27: signs, faults, forecasts, what they tell, scores, mixtures. */
public final class ForecastsTest {
    private static final Due DUE = new Due("ForecastsTest");
    private static final long UNKNOWN = QuakeLists.LOST - 1, OUTSIDE = QuakeLists.LOST - 2;

    public static void main(String[] args) {
        say();
        faults();
        forecasts();
        tells();
        rulesInTurn();
        scores();
        mixed();
        best();
        longStretch();
        DUE.end();
    }

    private static void due(String call, long got, long want) {
        DUE.due(call, got, want);
    }

    private static void sayAll(QuakeLists x, String text) {
        for (int i = 0; i < text.length(); i++) {
            x.say(text.charAt(i));
        }
    }

    private static int forecast(QuakeLists x, String text) {
        sayAll(x, text);
        return x.forecast();
    }

    private static void say() {
        QuakeLists x = new QuakeLists();
        due("sign 33", x.say(33), 1);
        due("sign 126", x.say(126), 2);
        due("sign 32", x.say(32), QuakeLists.OUTSIDE);
        due("sign 127", x.say(127), QuakeLists.OUTSIDE);
        due("two signs", x.told(1), 2);
        due("wipe", x.wipe(), 2);
        due("wipe again", x.wipe(), 0);
        for (int i = 1; i <= 48; i++) {
            due("sign " + i, x.say('1'), i);
        }
        due("sign 49", x.say('1'), QuakeLists.FULL);
        due("outside ahead of full", x.say(32), QuakeLists.OUTSIDE);
        due("told", x.told(1), 48);
        due("wipe all", x.wipe(), 48);
        due("told 0", x.told(1), 0);
        due("first sign again", x.say('1'), 1);
    }

    private static void fault(String text, int want) {
        QuakeLists x = new QuakeLists();
        sayAll(x, text);
        due("fault of " + text, x.fault(), want);
        due("fault of " + text + " once more", x.fault(), want);
        due("forecast of " + text, x.forecast(), want == QuakeLists.NONE ? 0 : QuakeLists.NO);
        due("signs of " + text, x.told(1), want == QuakeLists.NONE ? 0 : text.length());
    }

    private static void faults() {
        fault("", 0);
        fault("7", QuakeLists.NONE);
        fault("0000", QuakeLists.NONE);
        fault("9999", QuakeLists.NONE);
        fault("00000", 4);
        fault("a", 0);
        fault("7a", 1);
        fault("7;", 1);
        fault("7,", 2);
        fault("7,>", 2);
        fault("7,3", 3);
        fault("7,3,", 3);
        fault("7,33333", 6);
        fault("7,3>", 4);
        fault("7,3>1>", 5);
        fault("7,3>1:", 6);
        fault("7,3>1:;", 6);
        fault("7,3>1:2", 7);
        fault("7,3>1:2,", 7);
        fault("7,3>1:2;", 8);
        fault("7,3>1:2;;", 8);
        fault("7,3>1:2;5", QuakeLists.NONE);
        fault("7,3>1:2;5;", 9);
        fault("7,3>1:2;5,", 10);
        fault("7,3>1:2;5,6>7:8;9999", QuakeLists.NONE);
        fault("1111,2222>3333:4444;5555", QuakeLists.NONE);
        fault("1,2>3:4;1,2>3:4;1,2>3:4;1,2>3:4;1,2>3:4;5", QuakeLists.NONE);
        fault("1,2>3:4;1,2>3:4;1,2>3:4;1,2>3:4;1,2>3:4;1,2>3:4;", 48);
        fault("1111,2222>3333:4444;1111,2222>3333:4444;1,2>3:44", 48);
        fault("1111,2222>3333:4444;1,2>3:4;1,2>3:4;1,2>3:4;4444", QuakeLists.NONE);
    }

    private static void forecasts() {
        QuakeLists x = new QuakeLists();
        due("no signs", x.forecast(), QuakeLists.NO);
        for (int i = 0; i < 6; i++) {
            due("forecast " + i, forecast(x, "" + i), i);
        }
        due("forecasts", x.told(2), 6);
        due("full ahead of a fault", x.forecast(), QuakeLists.FULL);
        sayAll(x, "12");
        due("a seventh", x.forecast(), QuakeLists.FULL);
        due("its signs stay", x.told(1), 2);
        due("forecasts still", x.told(2), 6);
        for (int i = 0; i < 6; i++) {
            due("tells of " + i, x.tells(i, 0), i);
        }
    }

    private static void tells() {
        QuakeLists x = new QuakeLists();
        due("unknown, and outside", x.tells(0, 4000), QuakeLists.UNKNOWN);
        forecast(x, "3,40>0:9999;1001");
        x.quake(2, 10, 0, 0, 40, 11);
        x.quake(0, 10, 5, 5, 39, 10);
        x.quake(1, 3999, 5, 5, 90, 3999);
        due("1000 at most", x.tells(0, 0), 1000);
        forecast(x, "3,40>0:700;20");
        due("on the day itself", x.tells(1, 10), 20);
        due("not yet known on day 10", x.tells(1, 11), 20);
        due("known on day 11", x.tells(1, 12), 700);
        due("three days ahead", x.tells(1, 13), 700);
        due("four days ahead", x.tells(1, 14), 20);
        due("last day", x.tells(1, 3999), 20);
        due("day 4000", x.tells(1, 4000), QuakeLists.OUTSIDE);
        due("day -1", x.tells(1, -1), QuakeLists.OUTSIDE);
        due("f -1", x.tells(-1, 0), QuakeLists.UNKNOWN);
        due("f 2", x.tells(2, 0), QuakeLists.UNKNOWN);
        x.mend(0, 39);
        due("mended below m", x.tells(1, 12), 20);
        x.mend(0, 90);
        x.blast(0, true);
        due("a blast", x.tells(1, 12), 20);
        forecast(x, "0,0>0:700;20");
        due("no days", x.tells(2, 11), 20);
        forecast(x, "9999,0>0:0;20");
        due("all days", x.tells(3, 11), 0);
        forecast(x, "9999,91>0:0;20");
        due("m above all", x.tells(4, 3999), 20);
    }

    private static void rulesInTurn() {
        QuakeLists x = new QuakeLists();
        forecast(x, "9,30>1:600;9,20>0:300;2,0>0:100;7");
        x.quake(0, 10, 0, 0, 30, 10);
        due("second rule", x.tells(0, 12), 300);
        x.quake(0, 11, 0, 0, 35, 11);
        due("first rule, more than one", x.tells(0, 12), 600);
        due("one was ten days ago", x.tells(0, 20), 300);
        due("both were", x.tells(0, 21), 7);
        x.quake(0, 20, 0, 0, 5, 20);
        due("third rule", x.tells(0, 22), 100);
        due("none", x.tells(0, 23), 7);
        forecast(x, "1,0>9:1;1,0>9:2;1,0>9:3;1,0>9:4;9,0>2:9;1,0>9");
        due("a fault in the sixth", x.forecast(), QuakeLists.NO);
        x.wipe();
        forecast(x, "1,0>9:1;1,0>9:2;1,0>9:3;1,0>9:4;9,0>1:99;6");
        due("fifth rule", x.tells(1, 12), 99);
        due("behind the fifth rule", x.tells(1, 25), 6);
    }

    private static void scores() {
        QuakeLists x = new QuakeLists();
        forecast(x, "2,30>0:900;100");
        x.quake(0, 10, 0, 0, 30, 10);
        x.quake(0, 12, 0, 0, 50, 3999);
        due("one calm day", x.score(0, 30, 5, 5), 10000);
        due("a day with a quake", x.score(0, 30, 10, 10), 810000);
        due("alarm without a quake", x.score(0, 30, 11, 11), 810000);
        due("alarm with a quake, told late", x.score(0, 30, 12, 12), 10000);
        due("told late, no alarm", x.score(0, 30, 13, 13), 10000);
        due("m 31: day 10 is calm", x.score(0, 31, 10, 10), 10000);
        due("all", x.score(0, 30, 9, 13), 10000 + 810000 + 810000 + 10000 + 10000);
        x.blast(0, true);
        due("without the blast", x.score(0, 30, 9, 13), 3 * 10000 + 810000 + 10000);
        due("unknown, and outside", x.score(1, 91, 0, 0), UNKNOWN);
        due("f -1", x.score(-1, 0, 0, 0), UNKNOWN);
        due("m 91", x.score(0, 91, 0, 0), OUTSIDE);
        due("m -1", x.score(0, -1, 0, 0), OUTSIDE);
        due("from -1", x.score(0, 0, -1, 0), OUTSIDE);
        due("to 4000", x.score(0, 0, 0, 4000), OUTSIDE);
        due("from behind to", x.score(0, 0, 1, 0), OUTSIDE);
    }

    private static void mixed() {
        QuakeLists x = new QuakeLists();
        forecast(x, "999");
        forecast(x, "0");
        x.quake(0, 1, 0, 0, 30, 1);
        due("w 10", x.mixed(0, 1, 10, 0, 0, 0), 999 * 999);
        due("w 0", x.mixed(0, 1, 0, 0, 0, 0), 0);
        due("w 1, cut", x.mixed(0, 1, 1, 0, 0, 0), 99 * 99);
        due("w 1 with a quake", x.mixed(0, 1, 1, 30, 1, 1), 901 * 901);
        due("both days", x.mixed(0, 1, 1, 30, 0, 1), 99 * 99 + 901 * 901);
        due("with itself", x.mixed(0, 0, 3, 30, 0, 1), 999 * 999 + 1);
        due("f 2", x.mixed(2, 0, 11, 0, 0, 0), UNKNOWN);
        due("g 2", x.mixed(0, 2, 0, 0, 0, 0), UNKNOWN);
        due("g -1", x.mixed(0, -1, 0, 0, 0, 0), UNKNOWN);
        due("w 11", x.mixed(0, 1, 11, 0, 0, 0), OUTSIDE);
        due("w -1", x.mixed(0, 1, -1, 0, 0, 0), OUTSIDE);
        due("m 91", x.mixed(0, 1, 1, 91, 0, 0), OUTSIDE);
        due("m -1", x.mixed(0, 1, 1, -1, 0, 0), OUTSIDE);
        due("from 4000", x.mixed(0, 1, 1, 0, 4000, 4000), OUTSIDE);
        due("to -1", x.mixed(0, 1, 1, 0, -1, -1), OUTSIDE);
        due("from behind to", x.mixed(0, 1, 1, 0, 2, 1), OUTSIDE);
    }

    private static void best() {
        QuakeLists x = new QuakeLists();
        forecast(x, "1000");
        forecast(x, "0");
        x.quake(0, 1, 0, 0, 30, 1);
        due("calm: all of g", x.best(0, 1, 30, 0, 0), 0);
        due("a quake: all of f", x.best(0, 1, 30, 1, 1), 10);
        due("one of two days", x.best(0, 1, 30, 0, 1), 5);
        due("one of four days: 250, so 2 and 3 are alike", x.best(0, 1, 30, 0, 3), 2);
        due("one of ten days", x.best(0, 1, 30, 0, 9), 1);
        due("with itself the least", x.best(0, 0, 30, 0, 3), 0);
        due("f 2, and outside", x.best(2, 0, 91, 0, 0), QuakeLists.UNKNOWN);
        due("g -1", x.best(0, -1, 0, 0, 0), QuakeLists.UNKNOWN);
        due("m 91", x.best(0, 1, 91, 0, 0), QuakeLists.OUTSIDE);
        due("m -1", x.best(0, 1, -1, 0, 0), QuakeLists.OUTSIDE);
        due("from -1", x.best(0, 1, 0, -1, 0), QuakeLists.OUTSIDE);
        due("to 4000", x.best(0, 1, 0, 0, 4000), QuakeLists.OUTSIDE);
        due("from behind to", x.best(0, 1, 0, 1, 0), QuakeLists.OUTSIDE);
    }

    /** A score of all days is that of its parts, however they are cut. */
    private static void longStretch() {
        QuakeLists x = new QuakeLists();
        forecast(x, "30,20>1:800;5,0>0:400;9,45>0:350;10");
        forecast(x, "100,10>3:500;60");
        for (int i = 0; i < 40; i++) {
            int day = i * 97 % 3900;
            x.quake(i % 3, day, 0, 0, i * 7 % 91, day + i);
        }
        long all = 0;
        long mixture = 0;
        for (int day = 0; day < 4000; day += 100) {
            all += x.score(0, 25, day, day + 99);
            mixture += x.mixed(0, 1, 7, 25, day, day + 99);
        }
        due("score of all days", x.score(0, 25, 0, 3999), all);
        due("score of all days, mixed", x.mixed(0, 1, 7, 25, 0, 3999), mixture);
        QuakeLists y = new QuakeLists();
        forecast(y, "9999");
        due("greatest score", y.score(0, 0, 0, 3999), 4000L * 1000000L);
    }
}
