import java.util.Arrays;

/** A call with its arguments as data, so that tables of calls can be written and asked. */
record Asked(String call, int... arguments) {
    long of(QuakeLists x) {
        int[] a = arguments;
        switch (call) {
            case "quake": return x.quake(a[0], a[1], a[2], a[3], a[4], a[5]);
            case "blast": return x.blast(a[0], a[1] != 0);
            case "mend": return x.mend(a[0], a[1]);
            case "about": return x.about(a[0], a[1]);
            case "set": return x.set(a[0], a[1]);
            case "join": return x.join(a[0], a[1], a[2]);
            case "often": return x.often(a[0], a[1], a[2]);
            case "whole": return x.whole(a[0], a[1]);
            case "slope": return x.slope(a[0], a[1], a[2], a[3]);
            case "alike": return x.alike(a[0], a[1], a[2], a[3]);
            case "few": return x.few(a[0], a[1], a[2], a[3], a[4]);
            case "step": return x.step(a[0], a[1], a[2]);
            case "share": return x.share(a[0], a[1], a[2], a[3]);
            case "mother": return x.mother(a[0], a[1]);
            case "family": return x.family(a[0], a[1], a[2]);
            case "families": return x.families(a[0], a[1]);
            case "draw": return x.draw(a[0], a[1], a[2]);
            case "rate": return x.rate(a[0], a[1], a[2], a[3]);
            default: return ofForecastsAndGround(x);
        }
    }

    private long ofForecastsAndGround(QuakeLists x) {
        int[] a = arguments;
        switch (call) {
            case "say": return x.say(a[0]);
            case "wipe": return x.wipe();
            case "fault": return x.fault();
            case "forecast": return x.forecast();
            case "tells": return x.tells(a[0], a[1]);
            case "score": return x.score(a[0], a[1], a[2], a[3]);
            case "mixed": return x.mixed(a[0], a[1], a[2], a[3], a[4], a[5]);
            case "best": return x.best(a[0], a[1], a[2], a[3], a[4]);
            case "house": return x.house(a[0], a[1], a[2], a[3], a[4]);
            case "damage": return x.damage(a[0], a[1], a[2]);
            case "loss": return x.loss(a[0]);
            case "worst": return x.worst(a[0], a[1]);
            case "law": return x.law(a[0], a[1], a[2], a[3]);
            case "curve": return x.curve(a[0]);
            case "mean": return x.mean(a[0]);
            case "strengthen": return x.strengthen(a[0]);
            case "told": return x.told(a[0]);
            default: throw new IllegalArgumentException(call);
        }
    }

    /** Those that answer a long tell refusals as LOST and the refusal. */
    long refusal(int which) {
        switch (call) {
            case "slope": case "alike": case "few": case "share": case "score": case "mixed": case "mean":
                return QuakeLists.LOST + which;
            default:
                return which;
        }
    }

    /** No answer that is no refusal is below 0, but for NONE. */
    static boolean isTaken(long answer) {
        return answer >= 0 || answer == QuakeLists.NONE;
    }

    Asked with(int place, int v) {
        int[] other = arguments.clone();
        other[place] = v;
        return new Asked(call, other);
    }

    @Override
    public String toString() {
        return call + Arrays.toString(arguments);
    }
}
