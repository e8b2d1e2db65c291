import java.util.Random;

/** Runs of calls drawn by fixed seeds, answered by the class and by the oracle. */
public final class OracleTest {
    private static final int RUNS = 1300;
    /** An object is good for 512 calls, and one round of asking takes less than 70 of them. */
    private static final int CALLS = 440;

    private final Random lots;
    private final QuakeLists lists = new QuakeLists();
    private final Oracle oracle = new Oracle();
    private final Due due;
    private final String run;
    /** How wide days, cells and greatness are spread in this run: narrow ones meet more often. */
    private final int days;
    private final int cells;
    private final int greatest;
    private final int listsUsed;
    private int asked = 0;

    private OracleTest(int seed, Due due) {
        lots = new Random(seed);
        this.due = due;
        run = "run " + seed + " ";
        days = new int[] {6, 30, 200, 4000}[lots.nextInt(4)];
        cells = new int[] {2, 5, 16}[lots.nextInt(3)];
        greatest = new int[] {4, 20, 91}[lots.nextInt(3)];
        listsUsed = 1 + lots.nextInt(3);
    }

    public static void main(String[] args) {
        Due due = new Due("OracleTest");
        for (int seed = 1; seed <= RUNS && !due.anyWrong(); seed++) {
            OracleTest test = new OracleTest(seed, due);
            test.begin();
            while (test.asked < CALLS && !due.anyWrong()) {
                test.ask(test.lots.nextInt(42));
            }
        }
        due.end();
    }

    /** Now and then a number just outside, or far outside. */
    private int number(int least, int most) {
        int lot = lots.nextInt(60);
        if (lot == 0) return least - 1;
        if (lot == 1) return most + 1;
        if (lot == 2) return lots.nextBoolean() ? Integer.MIN_VALUE : Integer.MAX_VALUE;
        return least + lots.nextInt(most - least + 1);
    }

    private int day() {
        return number(0, days - 1);
    }

    private int cell() {
        return lots.nextInt(80) == 0 ? number(0, 15) : lots.nextInt(cells);
    }

    private int greatness() {
        return lots.nextInt(80) == 0 ? number(0, 90) : lots.nextInt(greatest);
    }

    private int quake() {
        return number(0, Math.max(0, oracle.told(0) - 1));
    }

    private int forecast() {
        return number(0, Math.max(0, oracle.told(2) - 1));
    }

    private void begin() {
        for (int what = 0; what < 3; what++) {
            for (int step = 0; step < 10; step++) step(what, step, lots.nextInt(4) == 0 ? 0 : lots.nextInt(101));
        }
        for (int kind = 0; kind < 4; kind++) {
            for (int step = 0; step < 10; step++) damage(kind, step, lots.nextInt(kind == 3 ? 30 : 101));
        }
        int many = lots.nextInt(30);
        for (int i = 0; i < many; i++) addQuake();
        if (lots.nextBoolean()) check("set", lists.set(2, 20), oracle.set(2, 20));
        if (lots.nextBoolean()) check("set", lists.set(0, 10), oracle.set(0, 10));
    }

    private void check(String call, long got, long want) {
        asked++;
        due.due(run + call, got, want);
    }

    private void step(int what, int step, int v) {
        check("step " + what + " " + step + " " + v, lists.step(what, step, v), oracle.step(what, step, v));
    }

    private void damage(int kind, int step, int v) {
        check("damage " + kind + " " + step + " " + v, lists.damage(kind, step, v), oracle.damage(kind, step, v));
    }

    private void addQuake() {
        int list = lots.nextInt(40) == 0 ? number(0, 2) : lots.nextInt(listsUsed);
        int day = day();
        int x = cell();
        int y = cell();
        int greatness = greatness();
        int told = lots.nextInt(40) == 0 ? day() : Math.min(3999, day + (lots.nextBoolean() ? 0 : lots.nextInt(20)));
        check("quake " + list + " " + day + " " + x + " " + y + " " + greatness + " " + told,
            lists.quake(list, day, x, y, greatness, told), oracle.quake(list, day, x, y, greatness, told));
    }

    private void say(String text) {
        for (int i = 0; i < text.length(); i++) {
            check("say " + text.charAt(i), lists.say(text.charAt(i)), oracle.say(text.charAt(i)));
        }
    }

    private String digits() {
        return String.valueOf(lots.nextInt(4) == 0 ? lots.nextInt(10000) : lots.nextInt(40));
    }

    /** Mostly a good text; often with one sign changed. */
    private void sayText() {
        check("wipe", lists.wipe(), oracle.wipe());
        StringBuilder text = new StringBuilder();
        int rules = lots.nextInt(4);
        for (int i = 0; i < rules; i++) {
            text.append(digits()).append(',').append(lots.nextInt(greatest)).append('>').append(lots.nextInt(4));
            text.append(':').append(lots.nextInt(1200)).append(';');
        }
        text.append(lots.nextInt(3) == 0 ? lots.nextInt(10000) : lots.nextInt(500));
        if (lots.nextInt(3) == 0) {
            text.setCharAt(lots.nextInt(text.length()), ",>:;0159a".charAt(lots.nextInt(9)));
        }
        say(text.toString());
        check("fault of " + text, lists.fault(), oracle.fault());
        check("forecast of " + text, lists.forecast(), oracle.forecast());
    }

    private void ask(int what) {
        switch (what) {
            case 0: case 1: case 2: addQuake(); break;
            case 3: changeQuake(); break;
            case 4: askAbout(); break;
            case 5: askSet(); break;
            case 6: case 7: case 8: case 9: askJoin(); break;
            case 10: case 11: case 12: askCounts(); break;
            case 13: case 14: askOdds(); break;
            case 15: step(number(0, 2), number(0, 9), number(0, 100)); break;
            case 16: case 17: askShare(); break;
            case 18: case 19: case 20: case 21: case 22: askMothers(); break;
            case 23: case 24: sayText(); break;
            case 25: case 26: case 27: askTells(); break;
            case 28: case 29: case 30: askScores(); break;
            case 31: case 32: case 33: build(); break;
            case 34: damage(number(0, 3), number(0, 9), number(0, 100)); break;
            case 35: case 36: askLoss(); break;
            case 37: case 38: askMean(); break;
            case 39: askSigns(); break;
            default: askTold(); break;
        }
    }

    private void changeQuake() {
        int quake = quake();
        int greatness = greatness();
        boolean is = lots.nextInt(3) == 0;
        check("blast " + quake + " " + is, lists.blast(quake, is), oracle.blast(quake, is));
        check("mend " + quake + " " + greatness, lists.mend(quake, greatness), oracle.mend(quake, greatness));
    }

    private void askAbout() {
        int quake = quake();
        int what = number(0, 7);
        check("about " + quake + " " + what, lists.about(quake, what), oracle.about(quake, what));
    }

    private void askSet() {
        int which = number(0, 4);
        int v = lots.nextInt(4) == 0 ? number(0, 100000) : number(0, 10);
        check("set " + which + " " + v, lists.set(which, v), oracle.set(which, v));
    }

    private void askJoin() {
        int a = number(0, 2);
        int b = number(0, 2);
        int i = lots.nextInt(4) == 0 ? number(-2, -1) : quake();
        check("join " + a + " " + b + " " + i, lists.join(a, b, i), oracle.join(a, b, i));
    }

    private void askCounts() {
        int list = number(-1, 2);
        int known = day();
        int m = greatness();
        int part = number(0, 1);
        String rest = list + " " + known + " " + m + " " + part;
        check("often " + rest, lists.often(list, known, m), oracle.often(list, known, m));
        check("whole " + rest, lists.whole(list, known), oracle.whole(list, known));
        check("slope " + rest, lists.slope(list, known, m, part), oracle.slope(list, known, m, part));
    }

    private void askOdds() {
        int a = number(0, 2);
        int b = number(0, 2);
        int m = greatness();
        int part = number(0, 1);
        check("alike " + a + " " + b + " " + m + " " + part, lists.alike(a, b, m, part), oracle.alike(a, b, m, part));
        int all = number(1, 8);
        int n = number(-1, 9);
        int t = number(2, 100);
        int w = number(1, Math.max(1, Math.min(100, t - 1)));
        check("few " + all + " " + n + " " + w + " " + t + " " + part,
            lists.few(all, n, w, t, part), oracle.few(all, n, w, t, part));
    }

    private void askShare() {
        int j = quake();
        int i = lots.nextInt(5) == 0 ? -1 : quake();
        int known = day();
        int part = number(0, 1);
        check("share " + j + " " + i + " " + known + " " + part,
            lists.share(j, i, known, part), oracle.share(j, i, known, part));
    }

    private void askMothers() {
        int j = quake();
        int known = lots.nextBoolean() ? 3999 : day();
        int what = number(0, 3);
        int i = number(-1, 8);
        int seed = number(1, 1000000);
        int x = cell();
        int y = cell();
        int day = day();
        String rest = j + " " + known;
        check("mother " + rest, lists.mother(j, known), oracle.mother(j, known));
        check("family " + rest + " " + what, lists.family(j, known, what), oracle.family(j, known, what));
        check("families " + known + " " + i, lists.families(known, i), oracle.families(known, i));
        check("draw " + seed + " " + rest, lists.draw(seed, j, known), oracle.draw(seed, j, known));
        check("rate " + x + " " + y + " " + day + " " + known,
            lists.rate(x, y, day, known), oracle.rate(x, y, day, known));
    }

    private void askTells() {
        int f = forecast();
        int day = day();
        check("tells " + f + " " + day, lists.tells(f, day), oracle.tells(f, day));
    }

    private void askScores() {
        int f = forecast();
        int g = forecast();
        int w = number(0, 10);
        int m = greatness();
        int from = day();
        int to = lots.nextInt(20) == 0 ? day() : Math.min(3999, from + lots.nextInt(60));
        String rest = f + " " + g + " " + w + " " + m + " " + from + " " + to;
        check("score " + rest, lists.score(f, m, from, to), oracle.score(f, m, from, to));
        check("mixed " + rest, lists.mixed(f, g, w, m, from, to), oracle.mixed(f, g, w, m, from, to));
        if (to - from < 60) check("best " + rest, lists.best(f, g, m, from, to), oracle.best(f, g, m, from, to));
    }

    private void build() {
        int x = cell();
        int y = cell();
        int kind = number(0, 2);
        int worth = lots.nextBoolean() ? number(0, 10000) : number(0, 200);
        int price = lots.nextBoolean() ? number(0, 100) : 10 * number(0, 3);
        check("house " + x + " " + y + " " + kind + " " + worth + " " + price,
            lists.house(x, y, kind, worth, price), oracle.house(x, y, kind, worth, price));
        int greatness = greatness();
        int often = number(1, 1000);
        if (lots.nextBoolean()) {
            check("law " + x + " " + y + " " + greatness + " " + often,
                lists.law(x, y, greatness, often), oracle.law(x, y, greatness, often));
        }
    }

    private void askLoss() {
        int quake = quake();
        int known = day();
        int what = number(0, 1);
        int l = lots.nextBoolean() ? number(0, 1000000) : number(0, 5000);
        check("loss " + quake, lists.loss(quake), oracle.loss(quake));
        check("worst " + known + " " + what, lists.worst(known, what), oracle.worst(known, what));
        check("curve " + l, lists.curve(l), oracle.curve(l));
    }

    private void askMean() {
        int houses = number(0, (1 << oracle.told(3)) - 1);
        int purse = lots.nextBoolean() ? number(0, 500) : number(0, 60);
        check("mean " + houses, lists.mean(houses), oracle.mean(houses));
        check("strengthen " + purse, lists.strengthen(purse), oracle.strengthen(purse));
    }

    private void askSigns() {
        int sign = number(33, 126);
        check("say " + sign, lists.say(sign), oracle.say(sign));
        check("fault", lists.fault(), oracle.fault());
        if (lots.nextInt(10) == 0) say("1,2>3:4;1,2>3:4;1,2>3:4;1,2>3:4;1,2>3:4;1,2>3:4;".substring(lots.nextInt(9)));
        check("fault", lists.fault(), oracle.fault());
        check("wipe", lists.wipe(), oracle.wipe());
    }

    private void askTold() {
        int what = number(0, 14);
        check("told " + what, lists.told(what), oracle.told(what));
    }
}
