import com.sun.management.ThreadMXBean;
import java.lang.management.ManagementFactory;

/** All calls of a run live in one room: after the constructor only forecast() may make objects. */
public final class RoomTest {
    /** With the calls that fill an object these stay below the 512 that it is good for. */
    private static final int CALLS = 120;
    private static final int KINDS = 15;
    private static final Due DUE = new Due("RoomTest");
    private static final ThreadMXBean ROOM = (ThreadMXBean) ManagementFactory.getThreadMXBean();

    public static void main(String[] args) {
        fill(new QuakeLists());
        used();
        long before = used();
        QuakeLists x = new QuakeLists();
        long made = used();
        fill(x);
        long filled = used();
        DUE.yes("a new object is small: " + (made - before), made - before < 40000);
        DUE.yes("filling it makes six forecasts: " + (filled - made), filled - made < 4000);
        for (int what = 0; what < KINDS; what++) {
            x = new QuakeLists();
            fill(x);
            dear(x, what);
            long start = used();
            long sum = 0;
            for (int call = 0; call < CALLS; call++) {
                sum += dear(x, what);
            }
            long more = used() - start;
            DUE.yes("call " + what + " makes nothing: " + more + " (" + sum + ")", more < 1000);
        }
        DUE.end();
    }

    private static long used() {
        return ROOM.getThreadAllocatedBytes(Thread.currentThread().getId());
    }

    private static void fill(QuakeLists x) {
        for (int i = 0; i < 40; i++) {
            x.quake(i < 24 ? i % 2 : 2, i * 90, i % 16, 15 - i % 16, i * 2, i * 90 + i);
        }
        for (int step = 0; step < 8; step++) {
            x.step(0, step, 90);
            x.step(1, step, 90 - step);
            x.step(2, step, 80 - step);
            x.damage(0, step, 90);
        }
        for (int i = 0; i < 12; i++) {
            x.house(i, i, 0, 1000 + i, 30 + i);
            x.law(i, i, 70, 900);
        }
        int[] rule = {'9', '9', ',', '9', '>', '1', ':', '9', ';'};
        for (int f = 0; f < 6; f++) {
            for (int i = 0; i < 45; i++) {
                x.say(rule[i % 9]);
            }
            x.say('7');
            x.forecast();
        }
    }

    private static long dear(QuakeLists x, int what) {
        switch (what) {
            case 0: return x.join(0, 1, -1);
            case 1: return x.best(0, 5, 10, 0, 3999);
            case 2: return x.score(0, 10, 0, 3999);
            case 3: return x.family(39, 3999, 1);
            case 4: return x.families(3999, -1);
            case 5: return x.draw(7, 39, 3999);
            case 6: return x.strengthen(500);
            case 7: return x.alike(0, 1, 10, 1);
            case 8: return x.few(8, 4, 50, 99, 1);
            case 9: return x.whole(-1, 3999);
            case 10: return x.worst(3999, 0);
            case 11: return x.mean(4095);
            case 12: return x.curve(5);
            case 13: return x.share(39, 3, 3999, 0);
            default: return x.fault();
        }
    }
}
