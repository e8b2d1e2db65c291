import java.util.ArrayList;
import java.util.List;

/** Objects in some state, and questions that see all of it. */
enum Sample {
    /** Nothing yet. */
    NEW,
    /** Five quakes in lists 0 and 1 (3 a blast, 2 told late), 3 houses, 2 laws, 2 forecasts, an unfinished text. */
    SOME,
    /** All that it can hold: lists of 12, 12 and 16 quakes, houses, laws, forecasts, signs without a fault. */
    FULL,
    /** Thirteen quakes in list 0, one in list 1, none in list 2. */
    CROWDED;

    /** Building an object takes less than 200 calls, so with these before and behind it stays below 512. */
    static final int AT_ONCE = 150;

    QuakeLists make() {
        QuakeLists x = new QuakeLists();
        switch (this) {
            case SOME: makeSome(x); break;
            case FULL: makeFull(x); break;
            case CROWDED: makeCrowded(x); break;
            default: break;
        }
        return x;
    }

    static void say(QuakeLists x, String text) {
        for (int i = 0; i < text.length(); i++) {
            x.say(text.charAt(i));
        }
    }

    static int forecast(QuakeLists x, String text) {
        say(x, text);
        return x.forecast();
    }

    private static void makeSome(QuakeLists x) {
        x.quake(0, 10, 3, 3, 40, 10);
        x.quake(1, 11, 3, 4, 43, 11);
        x.quake(0, 12, 4, 4, 35, 30);
        x.quake(1, 12, 4, 5, 50, 12);
        x.quake(0, 40, 9, 9, 60, 41);
        x.blast(3, true);
        for (int step = 0; step < 8; step++) {
            x.step(0, step + 2, 20 + 3 * step);
            x.step(1, step, 50 - 6 * step);
            x.step(2, step, 30 - 4 * step);
        }
        for (int kind = 0; kind < 4; kind++) {
            x.damage(kind, 3, 20 - 5 * kind);
            x.damage(kind, 5, 80 - 20 * kind);
        }
        x.house(3, 3, 0, 1000, 20);
        x.house(5, 3, 1, 500, 10);
        x.house(3, 4, 2, 2000, 50);
        x.law(3, 3, 55, 100);
        x.law(5, 3, 40, 300);
        forecast(x, "7,30>0:900;5");
        forecast(x, "200");
        say(x, "9,35>0:8");
    }

    private static void makeFull(QuakeLists x) {
        for (int i = 0; i < 40; i++) {
            int day = i * 13 % 40 * 5;
            x.quake(i < 24 ? i % 2 : 2, day, i % 16, i * 3 % 16, i * 37 % 91, day + i % 5);
        }
        for (int step = 0; step < 8; step++) {
            x.step(0, step + 1, 20 + 3 * step);
            x.step(1, step, 50 - 6 * step);
            x.step(2, step, 30 - 4 * step);
            x.damage(step % 4, step + 2, 80 - 20 * (step % 4));
        }
        for (int i = 0; i < 12; i++) {
            x.house(i, 15 - i, i % 3, 800 * i, 100 - i);
            x.law(i, i, 90 - i, 83 * (i + 1));
        }
        String[] texts = {"7,30>0:900;5", "0", "1000", "3", "44", "555"};
        for (String text : texts) {
            forecast(x, text);
        }
        say(x, "1,20>0:900;30,4>1:8;9999,0>9:7;9,1>0:9;9,9>9:9;0");
    }

    private static void makeCrowded(QuakeLists x) {
        for (int i = 0; i < 13; i++) {
            x.quake(0, i, 0, 0, 0, i);
        }
        x.quake(1, 0, 0, 0, 0, 0);
    }

    /** Questions that change something stand last: they tell what could not be asked otherwise. */
    List<Asked> questions() {
        QuakeLists x = make();
        List<Asked> all = new ArrayList<>();
        for (int what = 0; what <= 14; what++) {
            all.add(new Asked("told", what));
        }
        askQuakes(all, x.told(0));
        askForecasts(all, x.told(2));
        askGround(all, x.told(3));
        all.add(new Asked("fault"));
        for (int step = 0; step < 10; step++) {
            for (int kind = 0; kind < 4; kind++) {
                all.add(new Asked("step", kind, step, 1));
                all.add(new Asked("damage", kind, step, 1));
            }
        }
        // completes the text of SOME, so that its signs can be seen
        all.add(new Asked("say", ';'));
        all.add(new Asked("say", '6'));
        all.add(new Asked("forecast"));
        all.add(new Asked("tells", 2, 13));
        all.add(new Asked("tells", 2, 22));
        all.add(new Asked("wipe"));
        return all;
    }

    private static void askQuakes(List<Asked> all, int quakes) {
        for (int quake = 0; quake < quakes; quake++) {
            for (int what = 0; what < 8; what++) {
                all.add(new Asked("about", quake, what));
            }
            all.add(new Asked("mother", quake, 3999));
            all.add(new Asked("draw", 77, quake, 3999));
            all.add(new Asked("loss", quake));
        }
        for (int list = 0; list < 3; list++) {
            all.add(new Asked("whole", list, 3999));
            all.add(new Asked("slope", list, 3999, 20, 1));
            all.add(new Asked("alike", list, (list + 1) % 3, 40, 1));
            all.add(new Asked("join", list, (list + 1) % 3, -2));
        }
        all.add(new Asked("families", 3999, -1));
        all.add(new Asked("rate", 3, 3, 20, 3999));
    }

    private static void askForecasts(List<Asked> all, int forecasts) {
        for (int f = 0; f < forecasts; f++) {
            all.add(new Asked("tells", f, 0));
            all.add(new Asked("tells", f, 13));
            all.add(new Asked("score", f, 30, 0, 200));
            all.add(new Asked("best", 0, f, 30, 0, 200));
        }
    }

    private static void askGround(List<Asked> all, int houses) {
        all.add(new Asked("mean", 0));
        for (int house = 0; house < houses; house++) {
            all.add(new Asked("mean", 1 << house));
            all.add(new Asked("strengthen", 100 * house / 3));
        }
        for (int l = 0; l < 5000; l += 500) {
            all.add(new Asked("curve", l));
        }
        all.add(new Asked("worst", 3999, 0));
    }

    /**
     * What all questions answer, each few of them on an object of its own to which the calls
     * had been put before: so the 512 calls of an object are never used up.
     */
    long[] answersAfter(List<Asked> before) {
        List<Asked> questions = questions();
        long[] answers = new long[questions.size()];
        // the last ones belong together, so the first object gets what is left over
        int end = answers.length % AT_ONCE;
        for (int start = 0; start < answers.length; start = end, end += AT_ONCE) {
            QuakeLists x = make();
            for (Asked asked : before) {
                asked.of(x);
            }
            for (int i = start; i < end; i++) {
                answers[i] = questions.get(i).of(x);
            }
        }
        return answers;
    }
}
