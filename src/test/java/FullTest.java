/** An object that holds all it can hold: nothing throws there, for any arguments, and all answers are as due. */
public final class FullTest {
    private static final Due DUE = new Due("FullTest");
    private static final int[] EDGES = {
        Integer.MIN_VALUE, -3, -2, -1, 0, 1, 2, 3, 5, 12, 39, 40, 90, 3999, 4000, Integer.MAX_VALUE
    };
    private static final int[] FEWER = {Integer.MIN_VALUE, -1, 0, 2, 30, 3999, Integer.MAX_VALUE};

    /** How wide days are spread; 0: the object stays empty. */
    private final int wide;
    private QuakeLists lists;
    private Oracle oracle;
    private int asked;

    private FullTest(int wide) {
        this.wide = wide;
        renew();
    }

    public static void main(String[] args) {
        for (int wide : new int[] {0, 1, 10, 100}) {
            FullTest test = new FullTest(wide);
            test.askOnes();
            test.askTwos();
            test.askMore();
        }
        DUE.end();
    }

    private void due(String call, long got, long want) {
        asked++;
        DUE.due(call, got, want);
    }

    private void renew() {
        lists = new QuakeLists();
        oracle = new Oracle();
        asked = 0;
        if (wide > 0) {
            fill();
        }
    }

    /** An object is good for 512 calls: ahead of the next few there must be room for them. */
    private void makeRoom() {
        if (asked > 490) {
            renew();
        }
    }

    private void fill() {
        for (int i = 0; i < 41; i++) {
            int list = i < 24 ? i % 2 : 2;
            int day = Math.min(3999, i * i * 31 % 40 * wide);
            int told = Math.min(3999, day + i % 7);
            due("quake", lists.quake(list, day, i % 16, i * 3 % 16, i * 37 % 91, told),
                oracle.quake(list, day, i % 16, i * 3 % 16, i * 37 % 91, told));
        }
        due("blast", lists.blast(39, true), oracle.blast(39, true));
        for (int what = 0; what < 3; what++) {
            for (int step = 0; step < 10; step++) {
                int v = 50 + step * 5 - what * 7;
                due("step", lists.step(what, step, v), oracle.step(what, step, v));
            }
        }
        for (int i = 0; i < 40; i++) {
            int v = i / 10 == 3 ? i % 10 : i % 10 * 8 + i / 10;
            due("damage", lists.damage(i / 10, i % 10, v), oracle.damage(i / 10, i % 10, v));
        }
        for (int i = 0; i < 13; i++) {
            due("house", lists.house(i, 15 - i, i % 3, 700 * i, 90 - i), oracle.house(i, 15 - i, i % 3, 700 * i, 90 - i));
            due("law", lists.law(i, i, 90 - i, 80 * i + 1), oracle.law(i, i, 90 - i, 80 * i + 1));
        }
        String text = "1,20>0:900;30,4>1:8;9999,0>9:7;9,1>0:9;9,9>9:9;0";
        for (int f = 0; f < 7; f++) {
            String said = f == 0 || f == 5 ? text : "9,9>0:7" + f + ";" + f;
            for (int i = 0; i < said.length(); i++) {
                due("say", lists.say(said.charAt(i)), oracle.say(said.charAt(i)));
            }
            due("forecast", lists.forecast(), oracle.forecast());
        }
    }

    private void askOnes() {
        due("fault", lists.fault(), oracle.fault());
        for (int a : EDGES) {
            makeRoom();
            due("say " + a, lists.say(a), oracle.say(a));
            due("loss " + a, lists.loss(a), oracle.loss(a));
            due("curve " + a, lists.curve(a), oracle.curve(a));
            due("mean " + a, lists.mean(a), oracle.mean(a));
            due("strengthen " + a, lists.strengthen(a), oracle.strengthen(a));
            due("told " + a, lists.told(a), oracle.told(a));
        }
        due("fault", lists.fault(), oracle.fault());
        due("wipe", lists.wipe(), oracle.wipe());
    }

    private void askTwos() {
        for (int a : EDGES) {
            for (int b : EDGES) {
                makeRoom();
                String rest = a + " " + b;
                due("about " + rest, lists.about(a, b), oracle.about(a, b));
                due("whole " + rest, lists.whole(a, b), oracle.whole(a, b));
                due("mother " + rest, lists.mother(a, b), oracle.mother(a, b));
                due("families " + rest, lists.families(a, b), oracle.families(a, b));
                due("tells " + rest, lists.tells(a, b), oracle.tells(a, b));
                due("worst " + rest, lists.worst(a, b), oracle.worst(a, b));
                due("set " + rest, lists.set(a, b), oracle.set(a, b));
                due("mend " + rest, lists.mend(a, b), oracle.mend(a, b));
                due("blast " + rest, lists.blast(a, b > 3), oracle.blast(a, b > 3));
            }
        }
    }

    private void askMore() {
        for (int a : EDGES) {
            for (int b : EDGES) {
                for (int c : EDGES) {
                    askThree(a, b, c);
                }
            }
        }
        for (int a : FEWER) {
            for (int b : FEWER) {
                for (int c : FEWER) {
                    for (int d : FEWER) {
                        askFour(a, b, c, d);
                    }
                }
            }
        }
        due("score", lists.score(0, 20, 0, 3999), oracle.score(0, 20, 0, 3999));
        due("mixed", lists.mixed(0, 5, 3, 20, 0, 3999), oracle.mixed(0, 5, 3, 20, 0, 3999));
        due("best", lists.best(5, 1, 20, 0, 300), oracle.best(5, 1, 20, 0, 300));
    }

    private void askThree(int a, int b, int c) {
        makeRoom();
        String rest = a + " " + b + " " + c;
        due("often " + rest, lists.often(a, b, c), oracle.often(a, b, c));
        due("step " + rest, lists.step(a, b, c), oracle.step(a, b, c));
        due("damage " + rest, lists.damage(a, b, c), oracle.damage(a, b, c));
        due("draw " + rest, lists.draw(a, b, c), oracle.draw(a, b, c));
        if (c < 5) {
            due("family " + rest, lists.family(a, b, c), oracle.family(a, b, c));
        }
        if (a < 0 || b < 0 || c == -1 || c == 2) {
            due("join " + rest, lists.join(a, b, c), oracle.join(a, b, c));
        }
    }

    private void askFour(int a, int b, int c, int d) {
        makeRoom();
        String rest = a + " " + b + " " + c + " " + d;
        due("slope " + rest, lists.slope(a, b, c, d), oracle.slope(a, b, c, d));
        due("alike " + rest, lists.alike(a, b, c, d), oracle.alike(a, b, c, d));
        due("share " + rest, lists.share(a, b, c, d), oracle.share(a, b, c, d));
        due("rate " + rest, lists.rate(a, b, c, d), oracle.rate(a, b, c, d));
        due("law " + rest, lists.law(a, b, c, d), oracle.law(a, b, c, d));
        due("house " + rest, lists.house(a, b, c, d, d), oracle.house(a, b, c, d, d));
        due("quake " + rest, lists.quake(a, b, c, d, d, b), oracle.quake(a, b, c, d, d, b));
        due("few " + rest, lists.few(a, b, c, d, 0), oracle.few(a, b, c, d, 0));
        if (d - c < 100) {
            due("score " + rest, lists.score(a, b, c, d), oracle.score(a, b, c, d));
            due("best " + rest, lists.best(a, b, 2, c, d), oracle.best(a, b, 2, c, d));
            due("mixed " + rest, lists.mixed(a, b, b, 2, c, d), oracle.mixed(a, b, b, 2, c, d));
        }
    }
}
