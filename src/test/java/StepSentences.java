/** A tick's steps 1 to 3: devices act, tubes are judged, traffic is commanded. */
final class StepSentences {
    private StepSentences() { }

    static void test(Sentences doc) {
        doc.test("A TICK, t being the TIME behind it:", StepSentences::timeBehind);
        doc.test("1. Each device that is not FAILED whose command was sent LAG ticks ago or more has it as its "
                + "actual state.", StepSentences::act);
        doc.test("A fan whose actual state is another one though its command was sent 10 ticks ago or more is OUT: "
                + "its command becomes 0.", StepSentences::out);
        doc.test("2. Each tube is judged.", StepSentences::eachTube);
        doc.test("CANDIDATES are its sections whose post was pulled", StepSentences::posts);
        doc.test("and the least section that is ON with another one that is ON 1 .. 3 sections from it.",
                StepSentences::pairs);
        doc.test("The best one is that with the greatest rank of its plan, of these the least.",
                StepSentences::best);
        doc.test("If there is one, the tube is CONFIRMED there, if it was not confirmed, or if that rank is greater "
                + "than that of the section where it is.", StepSentences::confirmed);
        doc.test("Without one, a tube that is not confirmed is SUSPECTED at its least section that is ON, or "
                + "(without any) has no fire.", StepSentences::suspected);
        doc.test("THE FIRE that counts is that of the tube that is confirmed; of two, the one whose section's plan "
                + "has the greater rank, tube 0 if they are alike.", StepSentences::fireThatCounts);
        doc.test("By its plan each tube has a WANTED direction and number of fans; without a fire that counts these "
                + "are its wishes.", StepSentences::wanted);
        doc.test("3. Signals, of both tubes: STOP if a tube is confirmed, if this one is suspected, by order, or if "
                + "the barrier's command or actual state is CLOSED; else OPEN.", StepSentences::signals);
        doc.test("Then barriers: CLOSED if a tube is confirmed, and this one is HALTED: its signals are at STOP, "
                + "command and actual state", StepSentences::halted);
        doc.test("or STOP was sent 60 ticks ago or more (and is the command still);", StepSentences::sixtyTicks);
        doc.test("a barrier that is closed stays so as long as a tube is confirmed; else open.",
                StepSentences::staysClosed);
    }

    // ---- step 1

    private static void timeBehind(Check check) {
        TunnelWatch x = Scene.fans(0, 1, 0);
        x.order(0, true);
        x.wish(0, 1, 1);
        check.due("the time", x.ticks(1), 1);
        check.due("what the first tick sends is of tick 1", x.device(0, 0, 2), 1);
        check.due("what the first tick starts is of tick 1", x.device(0, 2, 2), 1);
    }

    private static void act(Check check) {
        for (int lag = 0; lag <= 5; lag++) {
            // What a tick sends can't act before step 1 of the next one.
            int due = Math.max(lag, 1);
            actsAfter(check, "signals, LAG " + lag, ordered(0, lag), 0, due);
            actsAfter(check, "a fan, LAG " + lag, ordered(2, lag), 2, due);
            actsAfter(check, "a barrier, LAG " + lag, halted(lag), 1, due);
        }
        TunnelWatch shorter = ordered(0, 5);
        shorter.ticks(2);
        shorter.lag(0, 0, 1);
        check.due("lag() itself does not act", shorter.device(0, 0, 1), 0);
        shorter.ticks(1);
        check.due("sent 3 ticks ago, LAG 1 since", shorter.device(0, 0, 1), 1);
        TunnelWatch longer = ordered(0, 1);
        longer.lag(0, 0, 5);
        actsAfter(check, "LAG 5 since", longer, 0, 5);
        sentAnew(check);
        failedBetween(check);
    }

    /** Tick 1 sent STOP to the signals and a start to fan 0 of tube 0; one of them has the lag. */
    private static TunnelWatch ordered(int device, int lag) {
        TunnelWatch x = Scene.fans(0, 1, 0);
        x.lag(0, device, lag);
        x.order(0, true);
        x.wish(0, 1, 1);
        x.ticks(1);
        return x;
    }

    /** The latest tick sent CLOSED to the barrier of tube 0, which has the lag. */
    private static TunnelWatch halted(int lag) {
        TunnelWatch x = new TunnelWatch(2, 0, 100);
        x.lag(0, 1, lag);
        x.pull(0, 0);
        x.ticks(2);
        return x;
    }

    private static void actsAfter(Check check, String what, TunnelWatch x, int device, int due) {
        check.due(what + ", command", x.device(0, device, 0), 1);
        check.due(what + ", in its tick", x.device(0, device, 1), 0);
        for (int ago = 1; ago <= 7; ago++) {
            x.ticks(1);
            check.due(what + ", " + ago + " ticks ago", x.device(0, device, 1), ago >= due ? 1 : 0);
        }
    }

    private static void sentAnew(Check check) {
        TunnelWatch x = ordered(0, 3);
        x.order(0, false);
        x.ticks(1);
        x.order(0, true);
        x.ticks(1);
        check.due("STOP again", x.device(0, 0, 2), 3);
        x.ticks(2);
        check.due("2 ticks ago, though STOP was sent 4 ticks ago too", x.device(0, 0, 1), 0);
        x.ticks(1);
        check.due("3 ticks ago", x.device(0, 0, 1), 1);
    }

    private static void failedBetween(Check check) {
        TunnelWatch x = ordered(0, 2);
        x.fail(0, 0);
        x.ticks(30);
        check.due("FAILED, 30 ticks ago", x.device(0, 0, 1), 0);
    }

    private static void out(Check check) {
        TunnelWatch x = Scene.fans(0, 2, 0);
        x.fail(0, 2);
        x.wish(0, -1, 1);
        x.ticks(10);
        check.due("9 ticks ago", x.device(0, 2, 3), 1);
        check.dueText("9 ticks ago", Scene.air(x, 0), "-1 0");
        x.ticks(1);
        check.due("10 ticks ago", x.device(0, 2, 3), 3);
        check.due("its command", x.device(0, 2, 0), 0);
        check.due("that is sent", x.device(0, 2, 2), 11);
        check.dueText("another one blows from the same tick on", Scene.air(x, 0), "0 -1");
        x.wish(0, -1, 2);
        x.ticks(100);
        check.dueText("an OUT one is not started", Scene.air(x, 0), "0 -1");
        check.due("it is OUT until it is mended", x.device(0, 2, 3), 3);
        outThatGoesOn(check);
        notOut(check);
    }

    private static void outThatGoesOn(Check check) {
        TunnelWatch x = Scene.fans(0, 1, 0);
        x.wish(0, 1, 1);
        x.ticks(2);
        x.fail(0, 2);
        x.wish(0, 1, 0);
        x.ticks(10);
        check.due("told to stand 9 ticks ago", x.device(0, 2, 3), 1);
        x.ticks(1);
        check.due("told to stand 10 ticks ago", x.device(0, 2, 3), 3);
        check.due("its command was 0 before: none is sent", x.device(0, 2, 2), 3);
        x.wish(0, 1, 1);
        x.ticks(50);
        check.due("it is not started", x.device(0, 2, 0), 0);
        check.due("it blows still", x.device(0, 2, 1), 1);
    }

    private static void notOut(Check check) {
        TunnelWatch x = Scene.fans(0, 1, 0);
        x.lag(0, 2, 5);
        x.wish(0, 1, 1);
        x.order(0, true);
        x.ticks(20);
        x.fail(0, 0);
        x.fail(0, 1);
        x.fail(0, 2);
        x.order(0, false);
        x.ticks(100);
        check.due("a fan that has its command", x.device(0, 2, 3), 1);
        check.due("signals that do not have theirs", x.device(0, 0, 3), 1);
        x.pull(0, 0);
        x.ticks(180);
        check.due("a barrier's command", x.device(0, 1, 0), 1);
        check.due("a barrier that does not have it", x.device(0, 1, 3), 1);
        TunnelWatch back = Scene.fans(0, 1, 0);
        back.fail(0, 2);
        back.wish(0, 1, 1);
        back.ticks(10);
        back.wish(0, 1, 0);
        back.ticks(1);
        check.due("10 ticks ago comes ahead of the new command", back.device(0, 2, 3), 3);
        TunnelWatch sooner = Scene.fans(0, 1, 0);
        sooner.fail(0, 2);
        sooner.wish(0, 1, 1);
        sooner.ticks(9);
        sooner.wish(0, 1, 0);
        sooner.ticks(50);
        check.due("told to stand again in time", sooner.device(0, 2, 3), 1);
    }

    // ---- step 2

    private static void eachTube(Check check) {
        TunnelWatch x = new TunnelWatch(5, 0, 100);
        x.pull(0, 4);
        x.sense(1, 3, 50);
        x.ticks(1);
        check.due("tube 0", x.tube(0, 0), 2);
        check.due("its section", x.tube(0, 1), 4);
        check.due("tube 1", x.tube(1, 0), 1);
        check.due("its section", x.tube(1, 1), 3);
        x.pull(1, 0);
        x.ticks(1);
        check.due("tube 1", x.tube(1, 0), 2);
        check.due("its section", x.tube(1, 1), 0);
    }

    private static void posts(Check check) {
        for (int section : new int[] {0, 1, 22, 23}) {
            for (int tube = 0; tube < 2; tube++) {
                TunnelWatch x = new TunnelWatch(24, 0, 100);
                x.pull(tube, section);
                x.ticks(1);
                check.due("a post alone", x.tube(tube, 0), 2);
                check.due("its section", x.tube(tube, 1), section);
                check.due("not the other tube", x.tube(1 - tube, 0), 0);
            }
        }
        TunnelWatch x = new TunnelWatch(24, 0, 100);
        x.deafen(0, 7, true);
        x.pull(0, 7);
        x.ticks(1);
        check.due("a post beside a DEAF detector", x.tube(0, 1), 7);
    }

    private static void pairs(Check check) {
        for (int n : new int[] {2, 5, 24}) {
            for (int low = 0; low < n; low++) {
                for (int high = low + 1; high < n; high++) {
                    TunnelWatch x = new TunnelWatch(n, 0, 100);
                    x.sense(1, low, 50);
                    x.sense(1, high, 50);
                    x.ticks(1);
                    String what = low + " and " + high + " of " + n;
                    check.due(what, x.tube(1, 0), high - low <= 3 ? 2 : 1);
                    check.due(what, x.tube(1, 1), low);
                }
            }
        }
        leastOfPairs(check);
        noPair(check);
    }

    private static void leastOfPairs(Check check) {
        TunnelWatch x = new TunnelWatch(24, 0, 100);
        x.plan(0, 13, 100, 1, 0, 0);
        x.plan(0, 20, 100, 1, 0, 0);
        for (int s : new int[] {0, 5, 10, 13, 20, 21}) {
            x.sense(0, s, 50);
        }
        x.ticks(1);
        check.due("the least with another one, whatever the ranks", x.tube(0, 1), 10);
    }

    private static void noPair(Check check) {
        TunnelWatch x = new TunnelWatch(24, 0, 100);
        x.sense(0, 10, 50);
        x.sense(0, 11, 49);
        x.sense(0, 12, 100);
        x.deafen(0, 12, true);
        x.sense(1, 10, 100);
        x.ticks(1);
        check.due("one below 50, a DEAF one, one in the other tube", x.tube(0, 0), 1);
        x.deafen(0, 12, false);
        x.ticks(1);
        check.due("no longer DEAF", x.tube(0, 0), 2);
    }

    private static void best(Check check) {
        TunnelWatch x = new TunnelWatch(10, 0, 100);
        x.plan(0, 2, 8, 1, 0, 0);
        x.plan(0, 5, 9, 1, 0, 0);
        x.plan(0, 7, 9, 1, 0, 0);
        x.plan(0, 9, 8, 1, 0, 0);
        x.plan(0, 8, 100, 1, 0, 0);
        for (int s : new int[] {9, 7, 5, 2}) {
            x.pull(0, s);
        }
        x.ticks(1);
        check.due("rank 9 twice", x.tube(0, 1), 5);
        int[][] rows = {{4, 5, 6}, {5, 5, 1}, {6, 5, 1}};
        for (int[] row : rows) {
            TunnelWatch pair = new TunnelWatch(10, 0, 100);
            pair.plan(1, 1, row[0], 1, 0, 0);
            pair.plan(1, 6, row[1], 1, 0, 0);
            pair.pull(1, 1);
            pair.sense(1, 6, 50);
            pair.sense(1, 7, 50);
            pair.ticks(1);
            check.due("a post of " + row[0] + " and a pair of " + row[1], pair.tube(1, 1), row[2]);
        }
    }

    private static void confirmed(Check check) {
        int[][] rows = {{49, 50, 8}, {50, 50, 4}, {51, 50, 4}, {0, 0, 4}, {0, 1, 8}, {99, 100, 8}};
        for (int[] row : rows) {
            for (int other : new int[] {8, 1}) {
                TunnelWatch x = new TunnelWatch(10, 0, 100);
                x.plan(0, 4, row[0], 1, 0, 0);
                x.plan(0, other, row[1], 1, 0, 0);
                x.pull(0, 4);
                x.ticks(1);
                check.due("it was not confirmed", x.tube(0, 1), 4);
                x.pull(0, other);
                x.ticks(1);
                String what = "rank " + row[0] + ", then " + row[1] + " in section " + other;
                check.due(what, x.tube(0, 1), row[2] == 8 ? other : 4);
                check.due(what, x.tube(0, 0), 2);
            }
        }
        TunnelWatch suspected = new TunnelWatch(10, 0, 100);
        suspected.plan(0, 2, 100, 1, 0, 0);
        suspected.sense(0, 2, 50);
        suspected.ticks(1);
        suspected.pull(0, 9);
        suspected.ticks(1);
        check.due("suspected is not confirmed: the rank there does not count", suspected.tube(0, 1), 9);
        TunnelWatch gone = new TunnelWatch(10, 0, 100);
        gone.plan(0, 2, 5, 1, 0, 0);
        gone.sense(0, 2, 50);
        gone.sense(0, 3, 50);
        gone.ticks(1);
        gone.sense(0, 2, 0);
        gone.sense(0, 3, 0);
        gone.pull(0, 6);
        gone.ticks(1);
        check.due("a rank that is not greater, though its section is no candidate any more", gone.tube(0, 1), 2);
    }

    private static void suspected(Check check) {
        TunnelWatch x = new TunnelWatch(24, 0, 100);
        x.plan(0, 23, 100, 1, 0, 0);
        x.sense(0, 23, 50);
        x.ticks(1);
        check.due("one that is ON", x.tube(0, 0), 1);
        check.due("the greatest section", x.tube(0, 1), 23);
        x.sense(0, 12, 50);
        x.ticks(1);
        check.due("the least that is ON, whatever its rank", x.tube(0, 1), 12);
        x.sense(0, 0, 50);
        x.ticks(1);
        check.due("the least section", x.tube(0, 1), 0);
        x.deafen(0, 0, true);
        x.sense(0, 12, 49);
        x.ticks(1);
        check.due("the one that is left", x.tube(0, 1), 23);
        x.sense(0, 23, 0);
        x.ticks(1);
        check.due("without any", x.tube(0, 0), 0);
        check.due("without any", x.tube(0, 1), TunnelWatch.NONE);
        x.sense(0, 22, 50);
        x.sense(0, 23, 50);
        x.ticks(1);
        x.sense(0, 22, 0);
        x.ticks(1);
        check.due("a confirmed one is not suspected", x.tube(0, 0), 2);
        x.sense(0, 23, 0);
        x.ticks(1);
        check.due("a confirmed one has its fire without any", x.tube(0, 0), 2);
        check.due("a confirmed one has its fire without any", x.tube(0, 1), 22);
    }

    private static void fireThatCounts(Check check) {
        int[][] rows = {{5, 4, 0}, {5, 5, 0}, {5, 6, 1}, {0, 0, 0}, {0, 1, 1}, {100, 100, 0}, {99, 100, 1}};
        for (int[] row : rows) {
            TunnelWatch x = new TunnelWatch(4, 0, 100);
            x.plan(0, 3, row[0], -1, 1, 2);
            x.plan(1, 0, row[1], -1, 3, 4);
            x.pull(1, 0);
            x.ticks(1);
            wants(check, "tube 1 alone", x, 1, 4, -1, 3);
            x.pull(0, 3);
            x.ticks(1);
            String what = "ranks " + row[0] + " and " + row[1];
            if (row[2] == 0) {
                wants(check, what, x, -1, 1, 1, 2);
            } else {
                wants(check, what, x, 1, 4, -1, 3);
            }
            x.reset(1);
            x.ticks(1);
            wants(check, "tube 0 alone", x, -1, 1, 1, 2);
        }
        TunnelWatch x = new TunnelWatch(4, 0, 100);
        x.plan(0, 3, 1, -1, 1, 2);
        x.plan(1, 0, 100, -1, 3, 4);
        x.pull(0, 3);
        x.sense(1, 0, 50);
        x.ticks(1);
        wants(check, "a suspicion does not count, whatever its rank", x, -1, 1, 1, 2);
    }

    private static void wants(Check check, String what, TunnelWatch x, int d0, int n0, int d1, int n1) {
        String got = x.tube(0, 2) + " " + x.tube(0, 3) + ", " + x.tube(1, 2) + " " + x.tube(1, 3);
        check.dueText(what, got, d0 + " " + n0 + ", " + d1 + " " + n1);
    }

    private static void wanted(Check check) {
        TunnelWatch x = new TunnelWatch(4, 0, 100);
        x.plan(0, 1, 5, -1, 0, 12);
        x.turn(0, 1, 1);
        x.plan(1, 2, 5, 1, 12, 0);
        x.turn(1, 2, -1);
        x.wish(0, 1, 3);
        x.wish(1, -1, 4);
        x.ticks(1);
        wants(check, "without a fire", x, 1, 3, -1, 4);
        x.sense(0, 1, 50);
        x.ticks(1);
        wants(check, "suspected", x, 1, 3, -1, 4);
        x.sense(0, 1, 0);
        x.pull(0, 1);
        x.ticks(1);
        wants(check, "a fire in tube 0", x, -1, 0, 1, 12);
        x.wish(0, 1, 7);
        x.ticks(1);
        wants(check, "a wish does not count in a fire", x, -1, 0, 1, 12);
        x.reset(0);
        x.ticks(1);
        wants(check, "no fire any more", x, 1, 7, -1, 4);
        x.pull(1, 2);
        x.ticks(1);
        wants(check, "a fire in tube 1", x, -1, 0, 1, 12);
    }

    // ---- step 3

    private static void signals(Check check) {
        for (int tube = 0; tube < 2; tube++) {
            TunnelWatch x = new TunnelWatch(4, 0, 100);
            int other = 1 - tube;
            x.ticks(1);
            check.due("without a cause", Scene.signals(x, tube), 0);
            x.order(tube, true);
            x.ticks(1);
            check.due("by order", Scene.signals(x, tube), Scene.STOP);
            check.due("by order for the other one", Scene.signals(x, other), 0);
            x.order(tube, false);
            x.sense(other, 0, 50);
            x.ticks(1);
            check.due("no longer by order, the other one suspected", Scene.signals(x, tube), 0);
            check.due("suspected", Scene.signals(x, other), Scene.STOP);
            x.sense(other, 0, 49);
            x.ticks(1);
            check.due("no longer suspected", Scene.signals(x, other), 0);
            x.pull(other, 0);
            x.ticks(1);
            check.due("the other one confirmed", Scene.signals(x, tube), Scene.STOP);
            check.due("confirmed", Scene.signals(x, other), Scene.STOP);
            x.reset(other);
            x.ticks(1);
            check.due("no longer confirmed", Scene.signals(x, tube) + Scene.signals(x, other), 0);
        }
        barrierCommand(check);
        barrierState(check);
    }

    /** The barrier is so slow that it never closes. */
    private static void barrierCommand(Check check) {
        TunnelWatch x = new TunnelWatch(4, 0, 100);
        x.lag(0, 1, 5);
        x.pull(0, 0);
        x.ticks(2);
        check.due("CLOSED is sent", Scene.barrier(x, 0), Scene.CLOSED);
        x.reset(0);
        x.ticks(1);
        check.due("open is sent", Scene.barrier(x, 0), 0);
        check.due("the barrier's command was CLOSED", Scene.signals(x, 0), Scene.STOP);
        check.due("it is not closed", x.device(0, 1, 1), 0);
        x.ticks(1);
        check.due("neither", Scene.signals(x, 0), 0);
    }

    private static void barrierState(Check check) {
        TunnelWatch x = new TunnelWatch(4, 0, 100);
        x.pull(0, 0);
        x.ticks(3);
        x.lag(0, 1, 4);
        x.fail(1, 1);
        x.reset(0);
        x.ticks(1);
        check.due("open is sent", Scene.barrier(x, 0) + Scene.barrier(x, 1), 0);
        x.ticks(3);
        check.due("it is closed still", x.device(0, 1, 1), 1);
        check.due("the barrier's state is CLOSED", Scene.signals(x, 0), Scene.STOP);
        x.ticks(1);
        check.due("it is open", x.device(0, 1, 1), 0);
        check.due("neither", Scene.signals(x, 0), 0);
        x.ticks(200);
        check.due("a barrier that does not open", Scene.signals(x, 1), Scene.STOP);
        x.mend(1, 1);
        x.ticks(1);
        check.due("a barrier that was mended", Scene.signals(x, 1), 0);
    }

    private static void halted(Check check) {
        for (int lag = 1; lag <= 5; lag++) {
            TunnelWatch x = new TunnelWatch(4, 0, 100);
            x.lag(1, 0, lag);
            x.pull(0, 0);
            x.ticks(lag);
            check.due("LAG " + lag + ", not at STOP yet", Scene.barrier(x, 1), 0);
            x.ticks(1);
            check.due("LAG " + lag + ", at STOP", Scene.barrier(x, 1), Scene.CLOSED);
        }
        TunnelWatch ordered = new TunnelWatch(4, 0, 100);
        ordered.order(1, true);
        ordered.ticks(100);
        check.due("at STOP, but no tube is confirmed", Scene.barrier(ordered, 1), 0);
        ordered.sense(1, 0, 50);
        ordered.ticks(100);
        check.due("at STOP, but it is only suspected", Scene.barrier(ordered, 1), 0);
        ordered.pull(0, 0);
        ordered.ticks(1);
        check.due("at STOP before, and confirmed", Scene.barrier(ordered, 1), Scene.CLOSED);
        check.due("not at STOP, and confirmed", Scene.barrier(ordered, 0), 0);
        stopAgainInTime(check);
        mendedToStop(check);
    }

    /** OPEN was sent, but had not acted yet when STOP was sent again. */
    private static void stopAgainInTime(Check check) {
        TunnelWatch x = new TunnelWatch(4, 0, 100);
        x.lag(0, 0, 5);
        x.order(0, true);
        x.ticks(6);
        x.order(0, false);
        x.ticks(1);
        check.due("OPEN is sent", Scene.signals(x, 0), 0);
        check.due("at STOP still", x.device(0, 0, 1), 1);
        x.pull(0, 0);
        x.ticks(1);
        check.due("STOP by command, and in fact still", Scene.barrier(x, 0), Scene.CLOSED);
    }

    private static void mendedToStop(Check check) {
        TunnelWatch x = new TunnelWatch(4, 0, 100);
        x.fail(0, 0);
        x.pull(0, 0);
        x.ticks(10);
        check.due("not at STOP", Scene.barrier(x, 0), 0);
        x.mend(0, 0);
        x.ticks(1);
        check.due("at STOP", Scene.barrier(x, 0), Scene.CLOSED);
    }

    private static void sixtyTicks(Check check) {
        TunnelWatch x = new TunnelWatch(4, 0, 100);
        x.fail(0, 0);
        x.pull(1, 0);
        x.ticks(60);
        check.due("59 ticks ago", Scene.barrier(x, 0), 0);
        x.ticks(1);
        check.due("60 ticks ago", Scene.barrier(x, 0), Scene.CLOSED);
        check.due("they are OPEN in fact", x.device(0, 0, 1), 0);
        for (int before = 59; before <= 61; before++) {
            TunnelWatch ordered = new TunnelWatch(4, 0, 100);
            ordered.fail(0, 0);
            ordered.order(0, true);
            ordered.ticks(before);
            ordered.pull(1, 0);
            ordered.ticks(1);
            check.due("by order " + before + " ticks ago", Scene.barrier(ordered, 0), before >= 60 ? 1 : 0);
        }
        TunnelWatch again = new TunnelWatch(4, 0, 100);
        again.fail(0, 0);
        again.order(0, true);
        again.ticks(100);
        again.order(0, false);
        again.ticks(1);
        again.pull(0, 0);
        again.ticks(1);
        check.due("100 ticks ago, but OPEN was sent since", Scene.barrier(again, 0), 0);
        again.ticks(59);
        check.due("sent again 59 ticks ago", Scene.barrier(again, 0), 0);
        again.ticks(1);
        check.due("sent again 60 ticks ago", Scene.barrier(again, 0), Scene.CLOSED);
    }

    private static void staysClosed(Check check) {
        TunnelWatch x = new TunnelWatch(4, 0, 100);
        x.pull(0, 0);
        x.pull(1, 0);
        x.ticks(3);
        int sentAt = x.device(0, 1, 2);
        x.fail(0, 0);
        x.fail(1, 1);
        x.reset(0);
        x.ticks(100);
        check.due("the other tube is confirmed", Scene.barrier(x, 0), Scene.CLOSED);
        check.due("it was not sent again", x.device(0, 1, 2), sentAt);
        x.sense(0, 0, 50);
        x.order(1, true);
        x.reset(1);
        x.ticks(1);
        check.due("suspected alone: open", Scene.barrier(x, 0), 0);
        check.due("ordered alone: open", Scene.barrier(x, 1), 0);
        check.due("a FAILED one's state", x.device(1, 1, 1), 1);
        x.pull(1, 0);
        x.ticks(1);
        check.due("confirmed again", Scene.barrier(x, 0) + Scene.barrier(x, 1), 2);
    }
}
