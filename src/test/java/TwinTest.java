import java.util.Random;

/** Long runs of calls, the same ones each time: every answer is that of the twin. */
public final class TwinTest {
    private static final int RUNS = 1500;
    /** The document frees what an object answers behind its 512th call. */
    private static final int CALLS = 512;

    private interface Call {
        long answer();
    }

    private final Check check;
    private final Random random;
    private final int run;
    private final int sections;
    private final int rest;
    private final int limit;
    private final TunnelWatch watch;
    private final Twin twin;
    private final int[] fans = new int[2];
    private int calls = 0;

    private TwinTest(Check check, int run) {
        this.check = check;
        this.run = run;
        this.random = new Random(run);
        this.sections = one(2, 3, 6, 24, 1, 25);
        this.rest = one(0, 0, 1, 5, 12, 30, 300, -1, 301);
        this.limit = one(0, 40, 100, 200, 400, 100000, -1, 100001);
        this.watch = new TunnelWatch(sections, rest, limit);
        this.twin = new Twin(sections, rest, limit);
    }

    public static void main(String[] args) {
        Check check = new Check("TwinTest");
        for (int run = 0; run < RUNS; run++) {
            new TwinTest(check, run).play();
        }
        check.end();
    }

    private void play() {
        setUp();
        while (calls < CALLS - 180) {
            happen();
            for (int i = 0; i < 3; i++) {
                ask();
            }
        }
        askAll();
        check.due("run " + run + ": calls are not too many", calls <= CALLS, true);
        check.due("run " + run + ": the twin was never broken", twin.broken(), 0);
    }

    private int one(int... of) {
        return of[random.nextInt(of.length)];
    }

    private int upTo(int n) {
        return random.nextInt(n + 1);
    }

    /** Mostly what there is, now and then what there is not. */
    private int edge(int least, int most) {
        return random.nextInt(40) == 0 ? one(least - 1, most + 1, Integer.MIN_VALUE, Integer.MAX_VALUE)
                : least + random.nextInt(most - least + 1);
    }

    private int tube() {
        return edge(0, 1);
    }

    private int section() {
        return edge(0, Math.max(2, Math.min(24, sections)) - 1);
    }

    private int device(int tube) {
        return edge(0, 1 + (tube == 0 || tube == 1 ? fans[tube] : 0));
    }

    private int direction() {
        return one(-1, 1, 0, -5, 7);
    }

    private void setUp() {
        int most = one(1, 3, 5, 13);
        for (int i = 0; i < 2; i++) {
            int tube = i;
            for (int f = upTo(most); f > 0; f--) {
                int kw = random.nextInt(30) == 0 ? one(0, 1, 1000, 1001) : 1 + random.nextInt(40);
                boolean added = both("fan(" + tube + ", " + kw + ")",
                        () -> watch.fan(tube, kw), () -> twin.fan(tube, kw));
                fans[tube] += added ? 1 : 0;
            }
        }
        for (int i = upTo(8); i > 0; i--) {
            tellPlan();
        }
        for (int i = upTo(4); i > 0; i--) {
            tellTurn();
        }
    }

    private void tellPlan() {
        int t = tube();
        int s = section();
        int rank = random.nextInt(4) == 0 ? edge(0, 100) : upTo(3);
        int d = direction();
        int own = edge(0, 12);
        int other = edge(0, 12);
        both("plan(" + t + ", " + s + ", " + rank + ", " + d + ", " + own + ", " + other + ")",
                () -> none(() -> watch.plan(t, s, rank, d, own, other)),
                () -> twin.plan(t, s, rank, d, own, other));
    }

    private void tellTurn() {
        int t = tube();
        int s = section();
        int d = direction();
        both("turn(" + t + ", " + s + ", " + d + ")",
                () -> none(() -> watch.turn(t, s, d)), () -> twin.turn(t, s, d));
    }

    private void happen() {
        switch (random.nextInt(22)) {
            case 0: case 1: case 2: detector(); break;
            case 3: deaf(); break;
            case 4: post(); break;
            case 5: operator(); break;
            case 6: case 7: wishes(); break;
            case 8: feed(); break;
            case 9: case 10: trouble(); break;
            case 11: late(); break;
            default: time(); break;
        }
    }

    private void detector() {
        int t = tube();
        int s = section();
        int value = random.nextInt(3) > 0 ? one(0, 49) : edge(0, 100);
        both("sense(" + t + ", " + s + ", " + value + ")",
                () -> watch.sense(t, s, value), () -> twin.sense(t, s, value));
    }

    private void deaf() {
        int t = tube();
        int s = section();
        boolean deaf = random.nextBoolean();
        both("deafen(" + t + ", " + s + ", " + deaf + ")",
                () -> bit(watch.deafen(t, s, deaf)), () -> twin.deafen(t, s, deaf));
    }

    private void post() {
        int t = tube();
        int s = section();
        both("pull(" + t + ", " + s + ")", () -> bit(watch.pull(t, s)), () -> twin.pull(t, s));
    }

    private void operator() {
        int t = tube();
        boolean stop = random.nextBoolean();
        switch (random.nextInt(4)) {
            case 0:
                both("confirm(" + t + ")", () -> bit(watch.confirm(t)), () -> twin.confirm(t));
                break;
            case 1:
                both("order(" + t + ", " + stop + ")",
                        () -> bit(watch.order(t, stop)), () -> twin.order(t, stop));
                break;
            default:
                both("reset(" + t + ")", () -> bit(watch.reset(t)), () -> twin.reset(t));
                break;
        }
    }

    private void wishes() {
        int t = tube();
        int d = direction();
        int count = edge(0, 12);
        both("wish(" + t + ", " + d + ", " + count + ")",
                () -> none(() -> watch.wish(t, d, count)), () -> twin.wish(t, d, count));
    }

    private void feed() {
        int kw = random.nextInt(20) == 0 ? one(-1, 0, 100000, 100001) : random.nextInt(400);
        both("limit(" + kw + ")", () -> watch.limit(kw), () -> twin.limit(kw));
    }

    private void trouble() {
        int t = tube();
        int d = device(t);
        int lag = edge(0, 5);
        switch (random.nextInt(3)) {
            case 0:
                both("fail(" + t + ", " + d + ")", () -> bit(watch.fail(t, d)), () -> twin.fail(t, d));
                break;
            case 1:
                both("mend(" + t + ", " + d + ")", () -> bit(watch.mend(t, d)), () -> twin.mend(t, d));
                break;
            default:
                both("lag(" + t + ", " + d + ", " + lag + ")",
                        () -> watch.lag(t, d, lag), () -> twin.lag(t, d, lag));
                break;
        }
    }

    /** What is told when it is mostly too late for it. */
    private void late() {
        switch (random.nextInt(3)) {
            case 0:
                tellPlan();
                break;
            case 1:
                tellTurn();
                break;
            default:
                int t = tube();
                int kw = edge(1, 1000);
                if (both("fan(" + t + ", " + kw + ")", () -> watch.fan(t, kw), () -> twin.fan(t, kw))) {
                    fans[t]++;
                }
                break;
        }
    }

    private void time() {
        int n = random.nextInt(12) == 0 ? one(0, -1, 10, 30, 60, 200, 201) : one(1, 1, 1, 2, 3, 5, 9, 10);
        both("ticks(" + n + ")", () -> watch.ticks(n), () -> twin.ticks(n));
    }

    private void ask() {
        int t = tube();
        int d = device(t);
        int what = edge(0, 5);
        switch (random.nextInt(7)) {
            case 0:
                both("load()", watch::load, twin::load);
                break;
            case 1:
                both("starts()", watch::starts, twin::starts);
                break;
            case 2:
                both("broken()", watch::broken, twin::broken);
                break;
            case 3:
                both("tube(" + t + ", " + what + ")", () -> watch.tube(t, what), () -> twin.tube(t, what));
                break;
            default:
                askDevice(t, d, what);
                break;
        }
    }

    private void askDevice(int t, int d, int what) {
        both("device(" + t + ", " + d + ", " + what + ")",
                () -> watch.device(t, d, what), () -> twin.device(t, d, what));
    }

    private void askAll() {
        both("broken()", watch::broken, twin::broken);
        both("load()", watch::load, twin::load);
        both("starts()", watch::starts, twin::starts);
        for (int t = 0; t < 2; t++) {
            for (int d = 0; d < 2 + fans[t]; d++) {
                for (int what = 0; what < 6; what++) {
                    askDevice(t, d, what);
                }
            }
        }
    }

    private boolean both(String what, Call ours, Call twins) {
        calls++;
        String due = outcome(twins);
        check.dueText("run " + run + ", call " + calls + ": " + what, outcome(ours), due);
        return !due.startsWith("throws");
    }

    private static String outcome(Call call) {
        try {
            return Long.toString(call.answer());
        } catch (IllegalArgumentException e) {
            return "throws IllegalArgumentException";
        } catch (IllegalStateException e) {
            return "throws IllegalStateException";
        }
    }

    private static long bit(boolean is) {
        return is ? 1 : 0;
    }

    private static long none(Runnable call) {
        call.run();
        return 0;
    }
}
