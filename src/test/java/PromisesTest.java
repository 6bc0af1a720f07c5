/** Each promise of the document by its number: ordinary inputs, edges and wrong inputs. */
public final class PromisesTest {
    private static final int[] NO_TUBES = {-1, 2, Integer.MIN_VALUE, Integer.MAX_VALUE};
    private static final Check CHECK = new Check("PromisesTest");

    public static void main(String[] args) {
        newObject();
        fan();
        lag();
        plan();
        turn();
        sense();
        deafen();
        pull();
        confirm();
        reset();
        wish();
        order();
        limit();
        fail();
        mend();
        ticks();
        tube();
        device();
        load();
        starts();
        broken();
        CHECK.end();
    }

    // ---- promise 1

    private static void newObject() {
        sectionsAre(new TunnelWatch(1, 0, 0), 2);
        sectionsAre(new TunnelWatch(Integer.MIN_VALUE, 0, 0), 2);
        sectionsAre(new TunnelWatch(2, 0, 0), 2);
        sectionsAre(new TunnelWatch(3, 0, 0), 3);
        sectionsAre(new TunnelWatch(24, 0, 0), 24);
        sectionsAre(new TunnelWatch(25, 0, 0), 24);
        sectionsAre(new TunnelWatch(Integer.MAX_VALUE, 0, 0), 24);
        restIs(-1, 0);
        restIs(0, 0);
        restIs(1, 1);
        restIs(300, 300);
        restIs(301, 300);
        restIs(Integer.MAX_VALUE, 300);
        limitIs(-1, 0);
        limitIs(0, 0);
        limitIs(77, 77);
        limitIs(100000, 100000);
        limitIs(100001, 100000);
        limitIs(Integer.MIN_VALUE, 0);
        TunnelWatch x = new TunnelWatch(5, 5, 5);
        x.fan(0, 1);
        for (int d = 0; d < 3; d++) {
            CHECK.due("lag at first", x.lag(0, d, 1), 1);
            CHECK.due("command at first", x.device(0, d, 0), 0);
            CHECK.due("actual at first", x.device(0, d, 1), 0);
            CHECK.due("sent at first", x.device(0, d, 2), 0);
            CHECK.due("failed at first", x.device(0, d, 3), 0);
        }
        CHECK.due("load at first", x.load(), 0);
        CHECK.due("starts at first", x.starts(), 0);
        CHECK.due("broken at first", x.broken(), 0);
    }

    private static void sectionsAre(TunnelWatch x, int count) {
        CHECK.due("last section", x.pull(0, count - 1), true);
        CHECK.due("last section", x.pull(1, count - 1), true);
        CHECK.illegalArgument("section " + count, () -> x.pull(0, count));
        CHECK.illegalArgument("section " + count, () -> x.pull(1, count));
    }

    private static void restIs(int given, int rest) {
        TunnelWatch x = new TunnelWatch(2, given, 100);
        x.fan(0, 1);
        x.wish(0, 1, 1);
        x.ticks(1);
        CHECK.due("rest of " + given, x.device(0, 2, 5), rest);
    }

    private static void limitIs(int given, int limit) {
        TunnelWatch x = new TunnelWatch(2, 0, given);
        CHECK.due("limit of " + given, x.limit(5), limit);
    }

    // ---- promises 2 to 5

    private static void fan() {
        TunnelWatch x = new TunnelWatch(2, 0, 100);
        for (int f = 0; f < 12; f++) {
            CHECK.due("fan number", x.fan(1, f == 0 ? 1 : 1000), f);
        }
        CHECK.illegalState("a 13th fan", () -> x.fan(1, 1));
        CHECK.illegalArgument("a 13th fan of 0 kW", () -> x.fan(1, 0));
        CHECK.illegalArgument("no device behind the 12th", () -> x.lag(1, 14, 1));
        CHECK.due("fans are counted by tube", x.fan(0, 1000), 0);
        CHECK.illegalArgument("0 kW", () -> x.fan(0, 0));
        CHECK.illegalArgument("1001 kW", () -> x.fan(0, 1001));
        CHECK.illegalArgument("no such device", () -> x.lag(0, 3, 1));
        for (int t : NO_TUBES) {
            CHECK.illegalArgument("fan in tube " + t, () -> x.fan(t, 1));
        }
        x.ticks(1);
        CHECK.illegalState("fan behind a tick", () -> x.fan(0, 1));
        CHECK.illegalArgument("argument before state", () -> x.fan(0, 0));
        CHECK.illegalArgument("argument before state", () -> x.fan(2, 1));
        CHECK.illegalArgument("no fan was added", () -> x.device(0, 3, 0));
    }

    private static void lag() {
        TunnelWatch x = new TunnelWatch(2, 0, 100);
        x.fan(1, 1);
        CHECK.due("signals' lag", x.lag(0, 0, 5), 1);
        CHECK.due("signals' lag", x.lag(0, 0, 0), 5);
        CHECK.due("signals' lag", x.lag(0, 0, 3), 0);
        CHECK.due("the other tube's", x.lag(1, 0, 2), 1);
        CHECK.due("the barrier's", x.lag(0, 1, 4), 1);
        CHECK.due("the fan's", x.lag(1, 2, 4), 1);
        CHECK.illegalArgument("-1 ticks", () -> x.lag(0, 0, -1));
        CHECK.illegalArgument("6 ticks", () -> x.lag(0, 0, 6));
        CHECK.illegalArgument("no such device", () -> x.lag(0, 2, 1));
        CHECK.illegalArgument("no such device", () -> x.lag(0, -1, 1));
        CHECK.illegalArgument("no such device", () -> x.lag(1, Integer.MAX_VALUE, 1));
        for (int t : NO_TUBES) {
            CHECK.illegalArgument("lag in tube " + t, () -> x.lag(t, 0, 1));
        }
        CHECK.due("nothing changed", x.lag(0, 0, 3), 3);
        x.order(0, true);
        x.ticks(3);
        CHECK.due("lag 3, 2 ticks behind", x.device(0, 0, 1), 0);
        x.ticks(1);
        CHECK.due("lag 3, 3 ticks behind", x.device(0, 0, 1), 1);
        CHECK.due("behind a tick", x.lag(0, 0, 5), 3);
        x.order(0, false);
        x.ticks(5);
        CHECK.due("lag 5, 4 ticks behind", x.device(0, 0, 1), 1);
        x.lag(0, 0, 1);
        x.ticks(1);
        CHECK.due("a shorter lag counts at once", x.device(0, 0, 1), 0);
        x.lag(0, 0, 0);
        x.order(0, true);
        x.ticks(1);
        CHECK.due("lag 0: devices act ahead of commands", x.device(0, 0, 1), 0);
        x.ticks(1);
        CHECK.due("lag 0, a tick behind", x.device(0, 0, 1), 1);
    }

    private static void plan() {
        TunnelWatch x = new TunnelWatch(4, 0, 100);
        x.plan(0, 0, 100, -7, 12, 0);
        x.plan(0, 1, 0, 0, 0, 12);
        x.plan(1, 3, 1, Integer.MIN_VALUE, 3, 4);
        CHECK.illegalArgument("rank -1", () -> x.plan(0, 2, -1, 1, 1, 1));
        CHECK.illegalArgument("rank 101", () -> x.plan(0, 2, 101, 1, 1, 1));
        CHECK.illegalArgument("fans -1", () -> x.plan(0, 2, 1, 1, -1, 1));
        CHECK.illegalArgument("fans 13", () -> x.plan(0, 2, 1, 1, 13, 1));
        CHECK.illegalArgument("others -1", () -> x.plan(0, 2, 1, 1, 1, -1));
        CHECK.illegalArgument("others 13", () -> x.plan(0, 2, 1, 1, 1, 13));
        CHECK.illegalArgument("section -1", () -> x.plan(0, -1, 1, 1, 1, 1));
        CHECK.illegalArgument("section 4", () -> x.plan(0, 4, 1, 1, 1, 1));
        for (int t : NO_TUBES) {
            CHECK.illegalArgument("plan in tube " + t, () -> x.plan(t, 0, 1, 1, 1, 1));
        }
        fireIn(x, 0, 0);
        wantedAre(x, "plan(0, 0)", -1, 12, 1, 0);
        CHECK.illegalState("plan behind a tick", () -> x.plan(0, 1, 1, 1, 1, 1));
        CHECK.illegalArgument("argument before state", () -> x.plan(0, 1, 1, 1, 13, 1));
        fireIn(x, 0, 1);
        wantedAre(x, "plan(0, 1)", 1, 0, 1, 12);
        fireIn(x, 0, 2);
        wantedAre(x, "no plan told", 1, 0, 1, 0);
        fireIn(x, 1, 3);
        wantedAre(x, "plan(1, 3)", 1, 4, -1, 3);

        TunnelWatch again = new TunnelWatch(2, 0, 100);
        again.plan(0, 0, 5, -1, 2, 3);
        again.plan(0, 0, 6, 1, 4, 5);
        fireIn(again, 0, 0);
        wantedAre(again, "the latest plan", 1, 4, 1, 5);
    }

    private static void turn() {
        TunnelWatch x = new TunnelWatch(3, 0, 100);
        x.turn(0, 0, -9);
        x.plan(0, 0, 5, 1, 2, 3);
        x.plan(0, 1, 5, -1, 2, 3);
        x.turn(0, 1, 0);
        x.turn(1, 2, -1);
        CHECK.illegalArgument("section -1", () -> x.turn(0, -1, 1));
        CHECK.illegalArgument("section 3", () -> x.turn(0, 3, 1));
        for (int t : NO_TUBES) {
            CHECK.illegalArgument("turn in tube " + t, () -> x.turn(t, 0, 1));
        }
        fireIn(x, 0, 0);
        wantedAre(x, "turned", 1, 2, -1, 3);
        CHECK.illegalState("turn behind a tick", () -> x.turn(0, 0, 1));
        CHECK.illegalArgument("argument before state", () -> x.turn(0, 3, 1));
        fireIn(x, 0, 0);
        wantedAre(x, "a throw turns nothing", 1, 2, -1, 3);
        fireIn(x, 0, 1);
        wantedAre(x, "turned by 0", -1, 2, 1, 3);
        fireIn(x, 1, 2);
        wantedAre(x, "turned without a plan", -1, 0, 1, 0);
    }

    private static void fireIn(TunnelWatch x, int tube, int section) {
        x.reset(0);
        x.reset(1);
        x.pull(tube, section);
        x.ticks(1);
        CHECK.due("section of the fire", x.tube(tube, 1), section);
    }

    private static void wantedAre(TunnelWatch x, String what, int d0, int n0, int d1, int n1) {
        CHECK.due(what + ", direction of tube 0", x.tube(0, 2), d0);
        CHECK.due(what + ", fans of tube 0", x.tube(0, 3), n0);
        CHECK.due(what + ", direction of tube 1", x.tube(1, 2), d1);
        CHECK.due(what + ", fans of tube 1", x.tube(1, 3), n1);
    }

    // ---- promises 6 to 10

    private static void sense() {
        TunnelWatch x = new TunnelWatch(5, 0, 100);
        CHECK.due("nothing told before", x.sense(0, 4, 100), 0);
        CHECK.due("told before", x.sense(0, 4, 49), 100);
        CHECK.illegalArgument("value -1", () -> x.sense(0, 4, -1));
        CHECK.illegalArgument("value 101", () -> x.sense(0, 4, 101));
        CHECK.illegalArgument("section -1", () -> x.sense(0, -1, 5));
        CHECK.illegalArgument("section 5", () -> x.sense(0, 5, 5));
        for (int t : NO_TUBES) {
            CHECK.illegalArgument("sense in tube " + t, () -> x.sense(t, 0, 5));
        }
        x.ticks(1);
        CHECK.due("49 is not ON", x.tube(0, 0), 0);
        CHECK.due("told before", x.sense(0, 4, 50), 49);
        CHECK.due("judged by the next tick", x.tube(0, 0), 0);
        x.ticks(1);
        CHECK.due("50 is ON", x.tube(0, 0), 1);
        CHECK.due("the section that is ON", x.tube(0, 1), 4);
        CHECK.due("the other tube", x.tube(1, 0), 0);
        CHECK.due("told before", x.sense(0, 4, 0), 50);
        x.ticks(1);
        CHECK.due("no longer ON", x.tube(0, 0), 0);
        CHECK.due("no section", x.tube(0, 1), TunnelWatch.NONE);
    }

    private static void deafen() {
        TunnelWatch x = new TunnelWatch(5, 0, 100);
        CHECK.due("was it deaf", x.deafen(1, 2, false), false);
        CHECK.due("was it deaf", x.deafen(1, 2, true), false);
        CHECK.due("was it deaf", x.deafen(1, 2, true), true);
        CHECK.due("the other tube's", x.deafen(0, 2, false), false);
        CHECK.illegalArgument("section -1", () -> x.deafen(1, -1, false));
        CHECK.illegalArgument("section 5", () -> x.deafen(1, 5, false));
        for (int t : NO_TUBES) {
            CHECK.illegalArgument("deafen in tube " + t, () -> x.deafen(t, 2, false));
        }
        x.sense(1, 2, 100);
        x.ticks(1);
        CHECK.due("deaf is not ON", x.tube(1, 0), 0);
        CHECK.due("a deaf one does not hinder reset", x.reset(1), true);
        CHECK.due("was it deaf", x.deafen(1, 2, false), true);
        x.ticks(1);
        CHECK.due("ON with the value told while deaf", x.tube(1, 0), 1);
        x.deafen(1, 2, true);
        x.ticks(1);
        CHECK.due("deaf from now on", x.tube(1, 0), 0);
    }

    private static void pull() {
        TunnelWatch x = new TunnelWatch(5, 0, 100);
        CHECK.due("was not pulled", x.pull(0, 3), true);
        CHECK.due("was pulled", x.pull(0, 3), false);
        CHECK.due("the other tube's", x.pull(1, 3), true);
        CHECK.illegalArgument("section -1", () -> x.pull(0, -1));
        CHECK.illegalArgument("section 5", () -> x.pull(0, 5));
        for (int t : NO_TUBES) {
            CHECK.illegalArgument("pull in tube " + t, () -> x.pull(t, 1));
        }
        CHECK.due("judged by the next tick", x.tube(0, 0), 0);
        x.ticks(1);
        CHECK.due("confirmed", x.tube(0, 0), 2);
        CHECK.due("where it was pulled", x.tube(0, 1), 3);
        x.ticks(100);
        CHECK.due("confirmed until it is reset", x.tube(0, 0), 2);
        x.reset(0);
        CHECK.due("reset undoes it", x.pull(0, 3), true);
    }

    private static void confirm() {
        TunnelWatch x = new TunnelWatch(6, 0, 100);
        CHECK.due("no fire", x.confirm(0), false);
        x.sense(0, 1, 50);
        CHECK.due("not judged yet", x.confirm(0), false);
        x.sense(0, 5, 50);
        x.ticks(1);
        CHECK.due("not the other tube", x.confirm(1), false);
        for (int t : NO_TUBES) {
            CHECK.illegalArgument("confirm in tube " + t, () -> x.confirm(t));
        }
        CHECK.due("suspected", x.confirm(0), true);
        CHECK.due("suspected still", x.confirm(0), true);
        CHECK.due("judged by the next tick", x.tube(0, 0), 1);
        CHECK.due("its post is pulled", x.pull(0, 1), false);
        x.sense(0, 1, 0);
        x.ticks(1);
        CHECK.due("confirmed", x.tube(0, 0), 2);
        CHECK.due("where it was suspected", x.tube(0, 1), 1);
        CHECK.due("not suspected any more", x.confirm(0), false);
        CHECK.due("no other post is pulled", x.pull(0, 5), true);
        CHECK.due("none in the other tube", x.pull(1, 1), true);
    }

    private static void reset() {
        TunnelWatch x = new TunnelWatch(6, 0, 100);
        CHECK.due("without a fire", x.reset(0), true);
        x.pull(0, 0);
        x.pull(0, 5);
        x.pull(1, 2);
        x.ticks(1);
        x.sense(0, 3, 50);
        CHECK.due("a detector is ON", x.reset(0), false);
        CHECK.due("confirmed still", x.tube(0, 0), 2);
        CHECK.due("where it was", x.tube(0, 1), 0);
        CHECK.due("pulled still", x.pull(0, 5), false);
        x.sense(0, 3, 49);
        for (int t : NO_TUBES) {
            CHECK.illegalArgument("reset of tube " + t, () -> x.reset(t));
        }
        x.sense(1, 3, 50);
        CHECK.due("the other tube's detector does not count", x.reset(0), true);
        CHECK.due("no fire", x.tube(0, 0), 0);
        CHECK.due("no section", x.tube(0, 1), TunnelWatch.NONE);
        CHECK.due("the other fire stays", x.tube(1, 0), 2);
        x.ticks(1);
        CHECK.due("no post is pulled", x.tube(0, 0), 0);
        CHECK.due("no post is pulled", x.pull(0, 0), true);
        CHECK.due("no post is pulled", x.pull(0, 5), true);
        CHECK.due("the other tube's post stays", x.pull(1, 2), false);

        TunnelWatch suspected = new TunnelWatch(6, 0, 100);
        suspected.sense(0, 2, 60);
        suspected.ticks(1);
        suspected.deafen(0, 2, true);
        CHECK.due("a suspicion is over too", suspected.reset(0), true);
        CHECK.due("no fire", suspected.tube(0, 0), 0);
        CHECK.due("nothing to confirm", suspected.confirm(0), false);
    }

    // ---- promises 11 to 16

    private static void wish() {
        TunnelWatch x = new TunnelWatch(2, 0, 10000);
        for (int f = 0; f < 3; f++) {
            x.fan(0, 10);
        }
        x.wish(0, Integer.MIN_VALUE, 12);
        x.wish(1, Integer.MAX_VALUE, 0);
        CHECK.illegalArgument("fans -1", () -> x.wish(0, 1, -1));
        CHECK.illegalArgument("fans 13", () -> x.wish(0, 1, 13));
        for (int t : NO_TUBES) {
            CHECK.illegalArgument("wish in tube " + t, () -> x.wish(t, 1, 1));
        }
        CHECK.due("wanted before any tick", x.tube(0, 2), 1);
        CHECK.due("wanted before any tick", x.tube(0, 3), 0);
        x.ticks(1);
        wantedAre(x, "wishes", -1, 12, 1, 0);
        CHECK.due("all that there are", x.tube(0, 4), 3);
        x.wish(0, 0, 1);
        wantedAre(x, "of the latest tick", -1, 12, 1, 0);
        x.ticks(1);
        wantedAre(x, "0 is direction 1", 1, 1, 1, 0);
    }

    private static void order() {
        TunnelWatch x = new TunnelWatch(2, 0, 100);
        CHECK.due("was it ordered", x.order(1, false), false);
        CHECK.due("was it ordered", x.order(1, true), false);
        CHECK.due("was it ordered", x.order(1, true), true);
        CHECK.due("the other tube's", x.order(0, false), false);
        for (int t : NO_TUBES) {
            CHECK.illegalArgument("order in tube " + t, () -> x.order(t, false));
        }
        CHECK.due("commanded by the next tick", x.device(1, 0, 0), 0);
        x.ticks(1);
        CHECK.due("STOP", x.device(1, 0, 0), 1);
        CHECK.due("the other tube's signals", x.device(0, 0, 0), 0);
        x.ticks(100);
        CHECK.due("an order closes no barrier", x.device(1, 1, 0), 0);
        CHECK.due("was it ordered", x.order(1, false), true);
        x.ticks(1);
        CHECK.due("OPEN", x.device(1, 0, 0), 0);
    }

    private static void limit() {
        TunnelWatch x = new TunnelWatch(2, 0, 600);
        x.fan(0, 100);
        x.fan(0, 100);
        CHECK.due("what it was", x.limit(0), 600);
        CHECK.due("what it was", x.limit(100000), 0);
        CHECK.due("what it was", x.limit(599), 100000);
        CHECK.illegalArgument("limit -1", () -> x.limit(-1));
        CHECK.illegalArgument("limit 100001", () -> x.limit(100001));
        CHECK.due("nothing changed", x.limit(599), 599);
        x.wish(0, 1, 2);
        x.ticks(1);
        CHECK.due("600 kW are too much for 599", x.load(), 300);
        x.limit(600);
        x.ticks(1);
        CHECK.due("600 kW are not for 600", x.load(), 600);
    }

    private static void fail() {
        TunnelWatch x = new TunnelWatch(2, 0, 100);
        x.fan(1, 1);
        for (int d = 0; d < 3; d++) {
            int device = d;
            CHECK.due("was it whole", x.fail(1, d), true);
            CHECK.due("was it whole", x.fail(1, d), false);
            CHECK.due("FAILED", x.device(1, d, 3), 1);
            for (int t : NO_TUBES) {
                CHECK.illegalArgument("fail in tube " + t, () -> x.fail(t, device));
            }
        }
        CHECK.due("the other tube's", x.device(0, 0, 3), 0);
        CHECK.illegalArgument("device -1", () -> x.fail(1, -1));
        CHECK.illegalArgument("device 3", () -> x.fail(1, 3));
        CHECK.illegalArgument("device 2", () -> x.fail(0, 2));
        x.order(1, true);
        x.wish(1, -1, 1);
        x.ticks(6);
        CHECK.due("it is commanded", x.device(1, 0, 0), 1);
        CHECK.due("it does not act", x.device(1, 0, 1), 0);
        CHECK.due("it is commanded", x.device(1, 2, 0), -1);
        CHECK.due("it does not act", x.device(1, 2, 1), 0);
    }

    private static void mend() {
        TunnelWatch x = new TunnelWatch(2, 0, 100);
        x.fan(0, 1);
        CHECK.due("was it bad", x.mend(0, 0), false);
        CHECK.illegalArgument("device -1", () -> x.mend(0, -1));
        CHECK.illegalArgument("device 3", () -> x.mend(0, 3));
        CHECK.illegalArgument("device 2", () -> x.mend(1, 2));
        for (int t : NO_TUBES) {
            CHECK.illegalArgument("mend in tube " + t, () -> x.mend(t, 0));
        }
        x.fail(0, 0);
        x.order(0, true);
        x.ticks(3);
        CHECK.due("was it bad", x.mend(0, 0), true);
        CHECK.due("its actual state is its command", x.device(0, 0, 1), 1);
        CHECK.due("not FAILED", x.device(0, 0, 3), 0);
        CHECK.due("was it bad", x.mend(0, 0), false);
        x.lag(0, 0, 5);
        x.order(0, false);
        x.ticks(1);
        CHECK.due("the lag is not over", x.device(0, 0, 1), 1);
        CHECK.due("was it bad", x.mend(0, 0), false);
        CHECK.due("its actual state is its command", x.device(0, 0, 1), 0);
        mendOut();
    }

    private static void mendOut() {
        TunnelWatch x = new TunnelWatch(2, 0, 100);
        x.fan(0, 1);
        x.fail(0, 2);
        x.wish(0, 1, 1);
        x.ticks(11);
        CHECK.due("FAILED and OUT", x.device(0, 2, 3), 3);
        CHECK.due("was it bad", x.mend(0, 2), true);
        CHECK.due("neither", x.device(0, 2, 3), 0);
        x.ticks(1);
        CHECK.due("it is started again", x.device(0, 2, 0), 1);
        x.ticks(1);
        CHECK.due("it acts again", x.device(0, 2, 1), 1);
    }

    private static void ticks() {
        TunnelWatch x = new TunnelWatch(2, 0, 100);
        CHECK.illegalArgument("0 ticks", () -> x.ticks(0));
        CHECK.illegalArgument("-1 ticks", () -> x.ticks(-1));
        CHECK.illegalArgument("201 ticks", () -> x.ticks(201));
        CHECK.illegalArgument("many ticks", () -> x.ticks(Integer.MAX_VALUE));
        CHECK.due("there was no tick", x.fan(0, 1), 0);
        CHECK.due("the time", x.ticks(1), 1);
        for (int i = 1; i < 100; i++) {
            CHECK.due("the time", x.ticks(200), 1 + 200 * i);
        }
        CHECK.illegalState("20001", () -> x.ticks(200));
        CHECK.illegalArgument("argument before state", () -> x.ticks(201));
        CHECK.due("the time", x.ticks(199), 20000);
        CHECK.illegalState("20001", () -> x.ticks(1));
        x.order(0, true);
        CHECK.illegalState("20001", () -> x.ticks(1));
        CHECK.due("nothing changed", x.device(0, 0, 0), 0);
    }

    // ---- promises 17 to 21

    private static void tube() {
        TunnelWatch x = new TunnelWatch(3, 0, 1000);
        int[] atFirst = {0, TunnelWatch.NONE, 1, 0, 0};
        for (int what = 0; what < 5; what++) {
            CHECK.due("tube 0 at first", x.tube(0, what), atFirst[what]);
            CHECK.due("tube 1 at first", x.tube(1, what), atFirst[what]);
        }
        for (int what : new int[] {-1, 5, Integer.MIN_VALUE, Integer.MAX_VALUE}) {
            CHECK.illegalArgument("what " + what, () -> x.tube(0, what));
        }
        for (int t : NO_TUBES) {
            CHECK.illegalArgument("tube " + t, () -> x.tube(t, 0));
        }
        x.fan(0, 10);
        x.fan(0, 10);
        x.fan(1, 10);
        x.plan(0, 2, 1, -1, 1, 1);
        x.wish(0, 1, 2);
        x.ticks(1);
        CHECK.due("blow in the wanted direction", x.tube(0, 4), 2);
        CHECK.due("blow in the other tube", x.tube(1, 4), 0);
        x.pull(0, 2);
        x.ticks(1);
        CHECK.due("confirmed", x.tube(0, 0), 2);
        CHECK.due("the section", x.tube(0, 1), 2);
        CHECK.due("the wanted direction", x.tube(0, 2), -1);
        CHECK.due("the wanted fans", x.tube(0, 3), 1);
        CHECK.due("those against it are not told", x.tube(0, 4), 0);
        CHECK.due("they blow still", x.device(0, 2, 0), 1);
        x.reset(0);
        CHECK.due("no fire", x.tube(0, 0), 0);
        CHECK.due("no section", x.tube(0, 1), TunnelWatch.NONE);
        CHECK.due("wanted in the latest tick", x.tube(0, 2), -1);
        CHECK.due("wanted in the latest tick", x.tube(0, 3), 1);
        CHECK.due("wanted in the latest tick", x.tube(1, 3), 1);
    }

    private static void device() {
        TunnelWatch x = new TunnelWatch(3, 7, 1000);
        x.fan(0, 10);
        for (int what : new int[] {-1, 6, Integer.MIN_VALUE, Integer.MAX_VALUE}) {
            CHECK.illegalArgument("what " + what, () -> x.device(0, 0, what));
            CHECK.illegalArgument("what " + what, () -> x.device(0, 2, what));
        }
        for (int t : NO_TUBES) {
            CHECK.illegalArgument("tube " + t, () -> x.device(t, 0, 0));
        }
        CHECK.illegalArgument("device -1", () -> x.device(0, -1, 0));
        CHECK.illegalArgument("device 3", () -> x.device(0, 3, 0));
        CHECK.illegalArgument("device 2", () -> x.device(1, 2, 0));
        for (int d = 0; d < 2; d++) {
            CHECK.due("no fan has run", x.device(0, d, 4), TunnelWatch.NONE);
            CHECK.due("no fan rests", x.device(0, d, 5), TunnelWatch.NONE);
        }
        CHECK.due("it never ran", x.device(0, 2, 4), 0);
        CHECK.due("it never blew", x.device(0, 2, 5), 0);
        x.ticks(4);
        CHECK.due("nothing was sent", x.device(0, 2, 2), 0);
        CHECK.due("it never blew", x.device(0, 2, 5), 0);
        x.wish(0, -1, 1);
        x.ticks(1);
        CHECK.due("command", x.device(0, 2, 0), -1);
        CHECK.due("actual", x.device(0, 2, 1), 0);
        CHECK.due("sent", x.device(0, 2, 2), 5);
        CHECK.due("it has run", x.device(0, 2, 4), 1);
        CHECK.due("REST while it blows", x.device(0, 2, 5), 7);
        x.ticks(2);
        CHECK.due("actual", x.device(0, 2, 1), -1);
        CHECK.due("sent", x.device(0, 2, 2), 5);
        CHECK.due("it has run", x.device(0, 2, 4), 3);
        CHECK.due("REST while it blows", x.device(0, 2, 5), 7);
        x.wish(0, -1, 0);
        x.ticks(1);
        CHECK.due("sent", x.device(0, 2, 2), 8);
        CHECK.due("it has run", x.device(0, 2, 4), 3);
        CHECK.due("REST from here", x.device(0, 2, 5), 7);
        x.ticks(6);
        CHECK.due("a tick of REST", x.device(0, 2, 5), 1);
        x.ticks(1);
        CHECK.due("it has RESTED", x.device(0, 2, 5), 0);
        x.ticks(1);
        CHECK.due("it has RESTED", x.device(0, 2, 5), 0);
        x.wish(0, -1, 1);
        x.ticks(2);
        CHECK.due("run in all", x.device(0, 2, 4), 5);
        deviceOfTraffic();
    }

    private static void deviceOfTraffic() {
        TunnelWatch x = new TunnelWatch(3, 7, 1000);
        x.pull(1, 0);
        x.ticks(2);
        CHECK.due("signals at STOP", x.device(0, 0, 0), 1);
        CHECK.due("sent", x.device(0, 0, 2), 1);
        CHECK.due("barrier CLOSED", x.device(0, 1, 0), 1);
        CHECK.due("sent", x.device(0, 1, 2), 2);
        CHECK.due("not yet", x.device(0, 1, 1), 0);
        x.ticks(1);
        CHECK.due("now", x.device(0, 1, 1), 1);
        CHECK.due("sent once", x.device(0, 1, 2), 2);
        x.fail(0, 1);
        CHECK.due("FAILED", x.device(0, 1, 3), 1);
        x.ticks(100);
        CHECK.due("no barrier is OUT", x.device(0, 1, 3), 1);
    }

    private static void load() {
        TunnelWatch x = new TunnelWatch(2, 0, 100000);
        x.fan(0, 1000);
        x.fan(1, 7);
        x.wish(0, 1, 1);
        CHECK.due("none blows", x.load(), 0);
        x.ticks(1);
        CHECK.due("a start", x.load(), 3000);
        x.wish(1, -1, 1);
        x.ticks(1);
        CHECK.due("starts in both tubes", x.load(), 3021);
        x.ticks(8);
        CHECK.due("9 ticks behind", x.load(), 3021);
        x.ticks(1);
        CHECK.due("10 ticks behind", x.load(), 1021);
        x.ticks(1);
        CHECK.due("10 ticks behind both", x.load(), 1007);
        x.fail(0, 2);
        CHECK.due("by command", x.load(), 1007);
        x.wish(0, 1, 0);
        CHECK.due("as of the time", x.load(), 1007);
        x.ticks(1);
        CHECK.due("by command", x.load(), 7);
    }

    private static void starts() {
        TunnelWatch x = new TunnelWatch(2, 0, 100000);
        for (int f = 0; f < 6; f++) {
            x.fan(f % 2, 10);
        }
        x.wish(0, 1, 2);
        x.ticks(1);
        CHECK.due("2 in tick 1", x.starts(), 2);
        x.wish(1, 1, 3);
        x.ticks(4);
        CHECK.due("3 at most", x.starts(), 3);
        CHECK.due("1 in tick 2", x.tube(1, 4), 1);
        x.ticks(5);
        CHECK.due("in the last 10 ticks", x.starts(), 3);
        x.ticks(1);
        CHECK.due("2 more in tick 11", x.starts(), 3);
        CHECK.due("2 more in tick 11", x.tube(1, 4), 3);
        x.ticks(1);
        CHECK.due("that of tick 2 is over", x.starts(), 2);
        x.ticks(8);
        CHECK.due("those of tick 11", x.starts(), 2);
        x.ticks(1);
        CHECK.due("no start", x.starts(), 0);
    }

    /** No run of calls may bring a tick that is broken; TwinTest looks for one in many runs. */
    private static void broken() {
        TunnelWatch x = new TunnelWatch(4, 5, 200);
        for (int f = 0; f < 8; f++) {
            x.fan(f % 2, 10 + f);
        }
        x.plan(0, 1, 9, -1, 4, 4);
        x.wish(0, 1, 4);
        x.wish(1, 1, 4);
        x.ticks(40);
        x.limit(10);
        CHECK.due("above the limit ahead of a tick", x.load() > 10, true);
        CHECK.due("no tick was behind it", x.broken(), 0);
        x.ticks(1);
        CHECK.due("the tick mends it", x.load() <= 10, true);
        x.limit(200);
        x.ticks(40);
        x.fail(0, 0);
        x.pull(0, 1);
        x.ticks(100);
        CHECK.due("barriers are closed", x.device(0, 1, 0) + x.device(1, 1, 0), 2);
        CHECK.due("air is turned", x.tube(0, 4), 4);
        x.mend(0, 0);
        x.reset(0);
        x.ticks(100);
        CHECK.due("air is turned again", x.tube(0, 4), 4);
        CHECK.due("never broken", x.broken(), 0);
    }
}
