/** What a tick does, step by step, as the document's terms tell it. */
public final class TickTest {
    private static final Check CHECK = new Check("TickTest");

    public static void main(String[] args) {
        outAfterTenTicks();
        outWhenItDoesNotStand();
        outIsReplacedInTheSameTick();
        pairsOfDetectors();
        bestCandidate();
        confirmedElsewhereByRankAlone();
        fireThatCounts();
        signalsBySuspicion();
        signalsByFireAndBarrier();
        barrierWaitsForHalt();
        barrierAfterSixtyTicks();
        sixtyTicksOfStopBeforeTheFire();
        stopSentAnewIsCountedAnew();
        barrierOpensWithoutFire();
        airIsTurnedBehindHalt();
        airIsTurnedAtOnceWithoutFire();
        tooManyAreStopped();
        shedInTheOtherTubeFirst();
        shedWithoutFire();
        shedThoseAgainstToo();
        startedByRun();
        blowingAgainstIsNoRefusal();
        runIsCountedInBothTubes();
        startsEndAtTheFirstRefusal();
        startsInTheTubeOfTheFireFirst();
        restedForADirection();
        turnedInOneTickWithoutRest();
        stoppedAndStartedInOneTick();
        refusedBehindAStop();
        CHECK.end();
    }

    private static TunnelWatch withFans(int sections, int rest, int limit, int[] first, int[] second) {
        TunnelWatch x = new TunnelWatch(sections, rest, limit);
        for (int kw : first) {
            x.fan(0, kw);
        }
        for (int kw : second) {
            x.fan(1, kw);
        }
        return x;
    }

    private static void dueCommands(TunnelWatch x, String what, int tube, int... commands) {
        for (int f = 0; f < commands.length; f++) {
            CHECK.due(what + ", fan " + f + " of tube " + tube, x.device(tube, 2 + f, 0), commands[f]);
        }
    }

    // ---- step 1

    private static void outAfterTenTicks() {
        TunnelWatch x = withFans(2, 0, 100, new int[] {1}, new int[] {});
        x.fail(0, 2);
        x.wish(0, 1, 1);
        x.ticks(10);
        CHECK.due("sent 9 ticks ago", x.device(0, 2, 3), 1);
        CHECK.due("sent 9 ticks ago", x.device(0, 2, 0), 1);
        x.ticks(1);
        CHECK.due("sent 10 ticks ago", x.device(0, 2, 3), 3);
        CHECK.due("its command becomes 0", x.device(0, 2, 0), 0);
        CHECK.due("that is sent", x.device(0, 2, 2), 11);
        x.ticks(50);
        CHECK.due("an OUT fan is not started", x.device(0, 2, 0), 0);
        CHECK.due("it ran 10 ticks", x.device(0, 2, 4), 10);
        CHECK.due("OUT until it is mended", x.device(0, 2, 3), 3);
    }

    private static void outWhenItDoesNotStand() {
        TunnelWatch x = withFans(2, 0, 100, new int[] {1}, new int[] {});
        x.wish(0, -1, 1);
        x.ticks(3);
        x.fail(0, 2);
        x.wish(0, -1, 0);
        x.ticks(10);
        CHECK.due("9 ticks", x.device(0, 2, 3), 1);
        x.ticks(1);
        CHECK.due("10 ticks", x.device(0, 2, 3), 3);
        CHECK.due("its command was 0 already", x.device(0, 2, 2), 4);
        CHECK.due("it does not act", x.device(0, 2, 1), -1);
    }

    private static void outIsReplacedInTheSameTick() {
        TunnelWatch x = withFans(2, 0, 100, new int[] {1, 1}, new int[] {});
        x.fail(0, 2);
        x.wish(0, 1, 1);
        x.ticks(11);
        dueCommands(x, "replaced", 0, 0, 1);
        CHECK.due("a start", x.starts(), 1);
    }

    // ---- step 2

    private static void pairsOfDetectors() {
        for (int distance = 1; distance <= 5; distance++) {
            TunnelWatch x = new TunnelWatch(10, 0, 100);
            x.sense(0, 4, 50);
            x.sense(0, 4 + distance, 50);
            x.ticks(1);
            CHECK.due(distance + " sections apart", x.tube(0, 0), distance <= 3 ? 2 : 1);
            CHECK.due(distance + " sections apart", x.tube(0, 1), 4);
        }
        TunnelWatch far = new TunnelWatch(24, 0, 100);
        far.sense(1, 0, 50);
        far.sense(1, 20, 50);
        far.sense(1, 23, 50);
        far.ticks(1);
        CHECK.due("a pair behind a single one", far.tube(1, 1), 20);
        TunnelWatch two = new TunnelWatch(10, 0, 100);
        two.plan(0, 5, 100, 1, 0, 0);
        two.sense(0, 2, 50);
        two.sense(0, 5, 50);
        two.sense(0, 7, 50);
        two.ticks(1);
        CHECK.due("only the least of a pair is a candidate", two.tube(0, 1), 2);
        TunnelWatch tubes = new TunnelWatch(10, 0, 100);
        tubes.sense(0, 2, 50);
        tubes.sense(1, 3, 50);
        tubes.ticks(1);
        CHECK.due("not across tubes", tubes.tube(0, 0) + tubes.tube(1, 0), 2);
    }

    private static void bestCandidate() {
        TunnelWatch x = new TunnelWatch(10, 0, 100);
        x.plan(0, 2, 5, 1, 0, 0);
        x.plan(0, 4, 9, 1, 0, 0);
        x.plan(0, 8, 9, 1, 0, 0);
        x.pull(0, 8);
        x.pull(0, 4);
        x.pull(0, 2);
        x.ticks(1);
        CHECK.due("the greatest rank, the least section", x.tube(0, 1), 4);
        TunnelWatch pair = new TunnelWatch(10, 0, 100);
        pair.plan(0, 6, 1, 1, 0, 0);
        pair.pull(0, 1);
        pair.sense(0, 6, 50);
        pair.sense(0, 7, 50);
        pair.ticks(1);
        CHECK.due("a pair of greater rank than a post", pair.tube(0, 1), 6);
    }

    private static void confirmedElsewhereByRankAlone() {
        TunnelWatch x = new TunnelWatch(10, 0, 100);
        x.plan(0, 2, 5, 1, 0, 0);
        x.plan(0, 4, 5, 1, 0, 0);
        x.plan(0, 1, 4, 1, 0, 0);
        x.plan(0, 8, 6, 1, 0, 0);
        x.pull(0, 4);
        x.ticks(1);
        x.pull(0, 2);
        x.pull(0, 1);
        x.ticks(1);
        CHECK.due("the same rank does not move it", x.tube(0, 1), 4);
        x.pull(0, 8);
        x.ticks(1);
        CHECK.due("a greater rank does", x.tube(0, 1), 8);

        TunnelWatch faded = new TunnelWatch(10, 0, 100);
        faded.plan(0, 5, 9, 1, 0, 0);
        faded.sense(0, 5, 50);
        faded.sense(0, 6, 50);
        faded.ticks(1);
        faded.sense(0, 5, 0);
        faded.sense(0, 6, 0);
        faded.sense(0, 1, 50);
        faded.ticks(1);
        CHECK.due("confirmed without a candidate", faded.tube(0, 0), 2);
        CHECK.due("confirmed without a candidate", faded.tube(0, 1), 5);
    }

    private static void fireThatCounts() {
        int[][] rows = {{5, 6, 1}, {6, 5, 0}, {5, 5, 0}};
        for (int[] row : rows) {
            TunnelWatch x = new TunnelWatch(4, 0, 100);
            x.plan(0, 0, row[0], -1, 1, 2);
            x.plan(1, 3, row[1], -1, 3, 4);
            x.pull(0, 0);
            x.pull(1, 3);
            x.ticks(1);
            boolean isSecond = row[2] == 1;
            CHECK.due("fans of tube 0", x.tube(0, 3), isSecond ? 4 : 1);
            CHECK.due("fans of tube 1", x.tube(1, 3), isSecond ? 3 : 2);
            CHECK.due("direction of tube 0", x.tube(0, 2), isSecond ? 1 : -1);
            CHECK.due("direction of tube 1", x.tube(1, 2), isSecond ? -1 : 1);
        }
    }

    // ---- step 3

    private static void signalsBySuspicion() {
        TunnelWatch x = new TunnelWatch(4, 0, 100);
        x.sense(1, 0, 50);
        x.ticks(1);
        CHECK.due("where it is suspected", x.device(1, 0, 0), 1);
        CHECK.due("not in the other tube", x.device(0, 0, 0), 0);
        x.ticks(100);
        CHECK.due("a suspicion closes no barrier", x.device(1, 1, 0), 0);
        x.sense(1, 0, 0);
        x.ticks(1);
        CHECK.due("no longer suspected", x.device(1, 0, 0), 0);
    }

    private static void signalsByFireAndBarrier() {
        TunnelWatch x = new TunnelWatch(4, 0, 100);
        x.lag(0, 1, 3);
        x.pull(1, 0);
        x.ticks(1);
        CHECK.due("a fire stops both tubes", x.device(0, 0, 0) + x.device(1, 0, 0), 2);
        x.ticks(10);
        x.reset(1);
        x.ticks(1);
        CHECK.due("barriers open first", x.device(0, 1, 0) + x.device(1, 1, 0), 0);
        CHECK.due("signals wait for it", x.device(0, 0, 0) + x.device(1, 0, 0), 2);
        x.ticks(1);
        CHECK.due("a barrier that is open", x.device(1, 0, 0), 0);
        CHECK.due("one that is not yet", x.device(0, 0, 0), 1);
        x.ticks(1);
        CHECK.due("one that is not yet", x.device(0, 0, 0), 1);
        x.ticks(1);
        CHECK.due("now it is", x.device(0, 0, 0), 0);
        x.ticks(5);
        x.pull(0, 0);
        x.ticks(5);
        x.fail(0, 1);
        x.reset(0);
        x.ticks(200);
        CHECK.due("a barrier that does not open keeps STOP", x.device(0, 0, 0), 1);
    }

    private static void barrierWaitsForHalt() {
        TunnelWatch x = new TunnelWatch(4, 0, 100);
        x.lag(0, 0, 4);
        x.order(1, true);
        x.ticks(5);
        x.pull(0, 0);
        x.ticks(1);
        CHECK.due("halted before", x.device(1, 1, 0), 1);
        CHECK.due("not halted", x.device(0, 1, 0), 0);
        x.ticks(3);
        CHECK.due("lag 4", x.device(0, 1, 0), 0);
        x.ticks(1);
        CHECK.due("lag 4 is over", x.device(0, 1, 0), 1);
    }

    private static void barrierAfterSixtyTicks() {
        TunnelWatch x = new TunnelWatch(4, 0, 100);
        x.fail(1, 0);
        x.pull(0, 0);
        x.ticks(60);
        CHECK.due("59 ticks", x.device(1, 1, 0), 0);
        x.ticks(1);
        CHECK.due("60 ticks", x.device(1, 1, 0), 1);
        x.ticks(1);
        CHECK.due("a closed one stays so", x.device(1, 1, 0), 1);
    }

    private static void sixtyTicksOfStopBeforeTheFire() {
        TunnelWatch x = new TunnelWatch(4, 0, 100);
        x.fail(1, 0);
        x.order(1, true);
        x.ticks(60);
        x.pull(0, 0);
        x.ticks(1);
        CHECK.due("STOP by order 60 ticks ago", x.device(1, 1, 0), 1);
    }

    private static void stopSentAnewIsCountedAnew() {
        TunnelWatch x = new TunnelWatch(4, 0, 100);
        x.fail(0, 0);
        x.order(0, true);
        x.ticks(50);
        x.order(0, false);
        x.ticks(1);
        x.pull(0, 0);
        x.ticks(60);
        CHECK.due("59 ticks of the new STOP", x.device(0, 1, 0), 0);
        x.ticks(1);
        CHECK.due("60 ticks of the new STOP", x.device(0, 1, 0), 1);
    }

    private static void barrierOpensWithoutFire() {
        TunnelWatch x = new TunnelWatch(4, 0, 100);
        x.pull(0, 0);
        x.pull(1, 0);
        x.ticks(5);
        x.reset(0);
        x.ticks(5);
        CHECK.due("a tube is confirmed still", x.device(0, 1, 0) + x.device(1, 1, 0), 2);
        x.order(1, true);
        x.reset(1);
        x.ticks(1);
        CHECK.due("none is", x.device(0, 1, 0) + x.device(1, 1, 0), 0);
        x.ticks(5);
        CHECK.due("STOP by order stays", x.device(1, 0, 0), 1);
    }

    // ---- step 4

    private static void airIsTurnedBehindHalt() {
        TunnelWatch x = withFans(4, 3, 1000, new int[] {1, 1}, new int[] {1});
        x.lag(0, 0, 3);
        x.plan(0, 0, 1, -1, 2, 1);
        x.wish(0, 1, 2);
        x.wish(1, -1, 1);
        x.ticks(30);
        x.order(1, true);
        x.ticks(2);
        x.pull(0, 0);
        x.ticks(1);
        dueCommands(x, "halted before", 1, 0);
        dueCommands(x, "not halted", 0, 1, 1);
        x.ticks(2);
        dueCommands(x, "not halted", 0, 1, 1);
        x.ticks(1);
        dueCommands(x, "halted", 0, 0, 0);
        x.ticks(2);
        dueCommands(x, "resting", 0, 0, 0);
        x.ticks(1);
        dueCommands(x, "rested", 0, -1, -1);
    }

    private static void airIsTurnedAtOnceWithoutFire() {
        TunnelWatch x = withFans(4, 3, 1000, new int[] {1, 1}, new int[] {});
        x.wish(0, 1, 2);
        x.ticks(30);
        x.sense(0, 0, 50);
        x.wish(0, -1, 2);
        x.ticks(1);
        dueCommands(x, "a suspicion is no fire that counts", 0, 0, 0);
        x.ticks(3);
        dueCommands(x, "turned", 0, -1, -1);
    }

    private static void tooManyAreStopped() {
        TunnelWatch x = withFans(4, 3, 1000, new int[] {1, 1, 1, 1}, new int[] {1, 1});
        x.fail(0, 0);
        x.fail(1, 0);
        x.plan(0, 0, 1, 1, 1, 1);
        x.wish(0, 1, 3);
        x.ticks(11);
        x.wish(0, 1, 4);
        x.ticks(11);
        x.wish(0, 1, 2);
        x.ticks(1);
        dueCommands(x, "the longest run, the least of these", 0, 0, 0, 1, 1);
        x.wish(1, 1, 2);
        x.ticks(20);
        x.pull(0, 0);
        x.ticks(1);
        dueCommands(x, "also when it is not halted", 0, 0, 0, 0, 1);
        dueCommands(x, "in the other tube too", 1, 0, 1);
    }

    // ---- step 5

    private static void shedInTheOtherTubeFirst() {
        TunnelWatch x = withFans(4, 0, 1000, new int[] {10, 10}, new int[] {10, 10});
        x.plan(0, 0, 1, 1, 2, 2);
        x.plan(1, 0, 1, 1, 2, 2);
        x.pull(1, 0);
        x.ticks(30);
        CHECK.due("all blow", x.load(), 40);
        x.limit(39);
        x.ticks(1);
        dueCommands(x, "the other tube", 0, 0, 1);
        dueCommands(x, "the fire's tube", 1, 1, 1);
        x.limit(10);
        x.ticks(1);
        dueCommands(x, "the other tube", 0, 0, 0);
        dueCommands(x, "the fire's tube", 1, 0, 1);
        x.limit(0);
        x.ticks(1);
        CHECK.due("none blows", x.load(), 0);
    }

    private static void shedWithoutFire() {
        TunnelWatch x = withFans(4, 0, 1000, new int[] {10, 10}, new int[] {10, 10});
        x.wish(0, 1, 2);
        x.wish(1, 1, 1);
        x.ticks(11);
        x.wish(1, 1, 2);
        x.ticks(11);
        x.limit(40);
        x.ticks(1);
        CHECK.due("40 is not above 40", x.load(), 40);
        x.limit(30);
        x.ticks(1);
        dueCommands(x, "tube 1 first, the longest run", 1, 0, 1);
        dueCommands(x, "tube 0 later", 0, 1, 1);
    }

    private static void shedThoseAgainstToo() {
        TunnelWatch x = withFans(4, 0, 1000, new int[] {10}, new int[] {});
        x.lag(0, 0, 5);
        x.plan(0, 0, 1, -1, 1, 0);
        x.wish(0, 1, 1);
        x.ticks(20);
        x.pull(0, 0);
        x.limit(9);
        x.ticks(1);
        dueCommands(x, "the limit does not wait for a halt", 0, 0);
    }

    // ---- step 6

    private static void startedByRun() {
        TunnelWatch x = withFans(2, 0, 1000, new int[] {1, 1, 1}, new int[] {});
        x.wish(0, 1, 1);
        x.ticks(2);
        dueCommands(x, "the least", 0, 1, 0, 0);
        x.wish(0, 1, 0);
        x.ticks(10);
        x.wish(0, 1, 2);
        x.ticks(1);
        dueCommands(x, "those that ran least", 0, 0, 1, 1);
    }

    private static void blowingAgainstIsNoRefusal() {
        TunnelWatch x = withFans(4, 0, 1000, new int[] {1, 1}, new int[] {1});
        x.lag(0, 0, 5);
        x.plan(0, 0, 1, -1, 2, 1);
        x.wish(0, 1, 1);
        x.ticks(20);
        x.pull(0, 0);
        x.ticks(1);
        dueCommands(x, "none starts against another one", 0, 1, 0);
        dueCommands(x, "the other tube's does", 1, 1);
    }

    private static void runIsCountedInBothTubes() {
        TunnelWatch x = withFans(2, 0, 1000, new int[] {1}, new int[] {1});
        x.ticks(3);
        CHECK.due("none is wished at first", x.load(), 0);
        CHECK.due("the wished direction at first", x.tube(0, 2), 1);
        CHECK.due("the wished direction at first", x.tube(1, 2), 1);
        x.wish(1, 1, 1);
        x.ticks(4);
        CHECK.due("it stood", x.device(0, 2, 4), 0);
        CHECK.due("it has run", x.device(1, 2, 4), 4);
    }

    private static void startsEndAtTheFirstRefusal() {
        TunnelWatch x = withFans(2, 0, 100, new int[] {34, 1}, new int[] {1});
        x.wish(0, 1, 2);
        x.wish(1, 1, 1);
        x.ticks(1);
        CHECK.due("no other one instead", x.load(), 0);
        x.limit(102);
        x.ticks(1);
        dueCommands(x, "one", 0, 1, 0);
        dueCommands(x, "none in the other tube", 1, 0);
        TunnelWatch none = withFans(2, 300, 100, new int[] {1}, new int[] {1});
        none.wish(0, 1, 1);
        none.ticks(1);
        none.wish(0, -1, 1);
        none.wish(1, 1, 1);
        none.ticks(1);
        dueCommands(none, "none has rested", 0, 0);
        dueCommands(none, "that is no refusal", 1, 1);
    }

    private static void startsInTheTubeOfTheFireFirst() {
        for (int fire = -1; fire < 2; fire++) {
            TunnelWatch x = withFans(2, 0, 1000, new int[] {1, 1, 1}, new int[] {1, 1, 1});
            x.wish(0, 1, 3);
            x.wish(1, 1, 3);
            x.plan(0, 0, 1, 1, 3, 3);
            x.plan(1, 0, 1, 1, 3, 3);
            if (fire >= 0) {
                x.pull(fire, 0);
            }
            x.ticks(1);
            CHECK.due("started first", x.tube(fire == 1 ? 1 : 0, 4), 3);
            CHECK.due("started later", x.tube(fire == 1 ? 0 : 1, 4), 0);
            x.ticks(9);
            CHECK.due("not in the last 10 ticks", x.tube(fire == 1 ? 0 : 1, 4), 0);
            x.ticks(1);
            CHECK.due("started later", x.tube(fire == 1 ? 0 : 1, 4), 3);
        }
    }

    private static void restedForADirection() {
        TunnelWatch x = withFans(2, 20, 1000, new int[] {1}, new int[] {});
        x.wish(0, -1, 1);
        x.ticks(1);
        dueCommands(x, "it never blew", 0, -1);
        x.wish(0, -1, 0);
        x.ticks(1);
        x.wish(0, -1, 1);
        x.ticks(1);
        dueCommands(x, "it blew last in this direction", 0, -1);
        x.wish(0, 1, 1);
        x.ticks(20);
        dueCommands(x, "19 ticks", 0, 0);
        x.ticks(1);
        dueCommands(x, "20 ticks", 0, 1);
    }

    private static void turnedInOneTickWithoutRest() {
        TunnelWatch x = withFans(2, 0, 1000, new int[] {1}, new int[] {});
        x.wish(0, 1, 1);
        x.ticks(15);
        x.wish(0, -1, 1);
        x.ticks(1);
        dueCommands(x, "REST 0", 0, -1);
        CHECK.due("actual", x.device(0, 2, 1), 1);
        CHECK.due("sent", x.device(0, 2, 2), 16);
        CHECK.due("a start", x.starts(), 1);
        CHECK.due("a start", x.load(), 3);
        CHECK.due("it has run", x.device(0, 2, 4), 16);
    }

    /** Both ran alike: the small fan is stopped first, and has room again when the great one is too. */
    private static void stoppedAndStartedInOneTick() {
        TunnelWatch x = withFans(2, 0, 1000, new int[] {1, 100}, new int[] {});
        x.wish(0, 1, 2);
        x.ticks(15);
        CHECK.due("both blow", x.load(), 101);
        x.limit(99);
        x.ticks(1);
        dueCommands(x, "the small one alone", 0, 1, 0);
        CHECK.due("its command was sent anew", x.device(0, 2, 2), 16);
        CHECK.due("a start", x.starts(), 1);
        CHECK.due("a start", x.load(), 3);
        CHECK.due("it stood in no tick", x.device(0, 2, 4), 16);
    }

    private static void refusedBehindAStop() {
        TunnelWatch x = withFans(2, 0, 1000, new int[] {1, 100}, new int[] {});
        x.wish(0, 1, 1);
        x.ticks(15);
        x.wish(0, 1, 2);
        x.ticks(15);
        x.limit(99);
        x.ticks(1);
        dueCommands(x, "the great one ran least and is refused", 0, 0, 0);
        CHECK.due("no start", x.starts(), 0);
    }
}
