/** Promises 17 to 21: what is told. */
final class AnswerSentences {
    private static final int NONE = TunnelWatch.NONE;

    private AnswerSentences() { }

    static void test(Sentences doc) {
        doc.test("Of a tube, as judged last (or reset): what = 0 no fire (0), suspected (1), confirmed (2);",
                AnswerSentences::judged);
        doc.test("1 the section, NONE without;", AnswerSentences::section);
        doc.test("2 the wanted direction of the latest tick (1 before any)", AnswerSentences::wantedDirection);
        doc.test("3 the wanted fans (0)", AnswerSentences::wantedFans);
        doc.test("4 how many blow in that direction by command. Illegal argument: also if what is none of these.",
                AnswerSentences::blowing);
        doc.test("Of a device: what = 0 its command (of signals and barriers 0 open, 1 STOP or CLOSED)",
                AnswerSentences::command);
        doc.test("1 its actual state", AnswerSentences::actual);
        doc.test("2 the tick in which the command was sent last (0 at first)", AnswerSentences::sent);
        doc.test("3 whether it is FAILED (1), OUT (2), or both (3);", AnswerSentences::bad);
        doc.test("of a fan (else NONE) 4 how long it has run", AnswerSentences::run);
        doc.test("5 how many ticks it needs still to have RESTED for the direction that is not its last one (0 if it "
                + "never blew, REST as long as its command is not 0). Illegal argument: also if what is none of "
                + "these.", AnswerSentences::rest);
        doc.test("The LOAD as of the TIME.", AnswerSentences::load);
        doc.test("How many starts there were in the last 10 ticks.", AnswerSentences::starts);
        doc.test("Behind how many ticks one of these was so: the load was above the limit;",
                AnswerSentences::brokenByLoad);
        doc.test("more than 3 starts in the last 10 ticks;", AnswerSentences::brokenByStarts);
        doc.test("fans of one tube blew against each other by command;", AnswerSentences::brokenByFans);
        doc.test("a fan was started that had not rested;", AnswerSentences::brokenByRest);
        doc.test("a barrier's command became CLOSED and its tube was not HALTED;",
                AnswerSentences::brokenByBarrier);
        doc.test("a barrier's command was CLOSED and that of its tube's signals OPEN.",
                AnswerSentences::brokenBySignals);
    }

    // ---- promise 17

    private static void judged(Check check) {
        for (int tube = 0; tube < 2; tube++) {
            TunnelWatch x = new TunnelWatch(5, 0, 100);
            check.due("before any tick", x.tube(tube, 0), 0);
            x.sense(tube, 4, 50);
            check.due("not judged yet", x.tube(tube, 0), 0);
            x.ticks(1);
            check.due("suspected", x.tube(tube, 0), 1);
            x.pull(tube, 0);
            check.due("not judged yet", x.tube(tube, 0), 1);
            x.ticks(1);
            check.due("confirmed", x.tube(tube, 0), 2);
            x.sense(tube, 4, 0);
            check.due("confirmed still", x.tube(tube, 0), 2);
            x.reset(tube);
            check.due("reset, ahead of a tick", x.tube(tube, 0), 0);
            check.due("the other tube", x.tube(1 - tube, 0), 0);
        }
    }

    private static void section(Check check) {
        for (int tube = 0; tube < 2; tube++) {
            TunnelWatch x = new TunnelWatch(24, 0, 100);
            check.due("before any tick", x.tube(tube, 1), NONE);
            x.ticks(1);
            check.due("no fire", x.tube(tube, 1), NONE);
            x.sense(tube, 23, 50);
            check.due("not judged yet", x.tube(tube, 1), NONE);
            x.ticks(1);
            check.due("suspected in the last section", x.tube(tube, 1), 23);
            x.pull(tube, 0);
            x.ticks(1);
            check.due("confirmed in the first one", x.tube(tube, 1), 0);
            check.due("the other tube", x.tube(1 - tube, 1), NONE);
            x.sense(tube, 23, 0);
            x.reset(tube);
            check.due("reset, ahead of a tick", x.tube(tube, 1), NONE);
        }
    }

    private static void wantedDirection(Check check) {
        TunnelWatch x = new TunnelWatch(5, 0, 100);
        x.plan(0, 0, 1, -1, 1, 1);
        x.turn(0, 0, -1);
        x.wish(0, -1, 1);
        x.wish(1, -1, 1);
        check.due("before any tick", x.tube(0, 2), 1);
        check.due("before any tick", x.tube(1, 2), 1);
        x.ticks(1);
        check.due("by the wish", x.tube(0, 2), -1);
        check.due("by the wish", x.tube(1, 2), -1);
        x.wish(0, 1, 1);
        check.due("of the latest tick", x.tube(0, 2), -1);
        x.ticks(1);
        check.due("of the latest tick", x.tube(0, 2), 1);
        x.pull(0, 0);
        x.ticks(1);
        check.due("by the plan", x.tube(0, 2), -1);
        x.reset(0);
        check.due("of the latest tick, though it was reset", x.tube(0, 2), -1);
    }

    private static void wantedFans(Check check) {
        TunnelWatch x = new TunnelWatch(5, 0, 100);
        x.plan(0, 0, 1, -1, 12, 0);
        x.wish(0, 1, 5);
        x.wish(1, 1, 12);
        check.due("before any tick", x.tube(0, 3) + x.tube(1, 3), 0);
        x.ticks(1);
        check.due("by the wish, though there are no fans", x.tube(0, 3), 5);
        check.due("by the wish", x.tube(1, 3), 12);
        x.wish(0, 1, 6);
        check.due("of the latest tick", x.tube(0, 3), 5);
        x.pull(0, 0);
        x.ticks(1);
        check.due("by the plan", x.tube(0, 3), 12);
        check.due("by the plan", x.tube(1, 3), 0);
        x.reset(0);
        check.due("of the latest tick, though it was reset", x.tube(0, 3), 12);
    }

    private static void blowing(Check check) {
        TunnelWatch x = Scene.fans(0, 3, 2);
        x.plan(0, 0, 1, -1, 3, 2);
        x.lag(0, 0, 5);
        check.due("before any tick", x.tube(0, 4), 0);
        x.fail(0, 2);
        x.wish(0, 1, 2);
        x.wish(1, -1, 1);
        x.ticks(1);
        check.due("by command, one of them FAILED", x.tube(0, 4), 2);
        check.due("in direction -1", x.tube(1, 4), 1);
        x.wish(0, -1, 2);
        check.due("in the direction of the latest tick", x.tube(0, 4), 2);
        x.wish(0, 1, 2);
        x.ticks(1);
        x.pull(0, 0);
        x.ticks(1);
        check.due("none in the direction that is wanted now", x.tube(0, 4), 0);
        check.dueText("two in the other one", Scene.air(x, 0), "1 1 0");
        Refusals.refuses(check, "tube");
    }

    // ---- promise 18

    private static void command(Check check) {
        TunnelWatch x = Scene.fans(0, 1, 1);
        for (int d = 0; d < 3; d++) {
            check.due("at first", x.device(0, d, 0) + x.device(1, d, 0), 0);
        }
        x.wish(0, -1, 1);
        x.wish(1, 1, 1);
        x.pull(1, 0);
        x.ticks(1);
        check.due("STOP", x.device(0, 0, 0), 1);
        check.due("open", x.device(0, 1, 0), 0);
        x.ticks(1);
        check.due("CLOSED", x.device(0, 1, 0), 1);
        x.reset(1);
        x.ticks(2);
        check.due("open", x.device(0, 1, 0), 0);
        check.due("OPEN", x.device(0, 0, 0), 0);
        check.due("a fan", x.device(0, 2, 0), -1);
        check.due("another one", x.device(1, 2, 0), 1);
    }

    private static void actual(Check check) {
        TunnelWatch x = Scene.fans(0, 1, 0);
        x.lag(0, 2, 2);
        x.wish(0, -1, 1);
        x.order(0, true);
        x.ticks(1);
        check.due("signals", x.device(0, 0, 1), 0);
        check.due("a fan", x.device(0, 2, 1), 0);
        x.ticks(1);
        check.due("signals behind their LAG", x.device(0, 0, 1), 1);
        check.due("a fan", x.device(0, 2, 1), 0);
        x.ticks(1);
        check.due("a fan behind its LAG", x.device(0, 2, 1), -1);
        x.wish(0, -1, 0);
        x.order(0, false);
        x.pull(0, 0);
        x.ticks(2);
        check.due("a barrier", x.device(0, 1, 1), 1);
        check.due("a fan's stop", x.device(0, 2, 1), -1);
        x.ticks(1);
        check.due("a fan's stop behind its LAG", x.device(0, 2, 1), 0);
    }

    private static void sent(Check check) {
        TunnelWatch x = Scene.fans(0, 1, 1);
        x.ticks(200);
        for (int d = 0; d < 3; d++) {
            check.due("never sent", x.device(0, d, 2) + x.device(1, d, 2), 0);
        }
        x.wish(0, 1, 1);
        x.pull(0, 0);
        x.ticks(1);
        check.due("signals", x.device(0, 0, 2), 201);
        check.due("a barrier, not yet", x.device(0, 1, 2), 0);
        x.ticks(1);
        check.due("a barrier", x.device(0, 1, 2), 202);
        x.ticks(8);
        check.due("sent once", x.device(0, 0, 2), 201);
        x.reset(0);
        x.ticks(1);
        check.due("a barrier's opening", x.device(0, 1, 2), 211);
        check.due("a fan's start", x.device(0, 2, 2), 211);
        x.ticks(1);
        check.due("OPEN", x.device(0, 0, 2), 212);
        x.wish(0, -1, 1);
        x.ticks(1);
        check.due("a fan that is turned", x.device(0, 2, 2), 213);
        x.mend(0, 2);
        check.due("mend() sends nothing", x.device(0, 2, 2), 213);
    }

    /** A fan that is OUT alone can't be had: a LAG is 5 at most, so only a FAILED one comes to be OUT. */
    private static void bad(Check check) {
        TunnelWatch x = Scene.fans(0, 1, 0);
        for (int d = 0; d < 3; d++) {
            check.due("neither", x.device(0, d, 3), 0);
            x.fail(0, d);
            check.due("FAILED", x.device(0, d, 3), 1);
        }
        x.wish(0, 1, 1);
        x.ticks(10);
        check.due("FAILED", x.device(0, 2, 3), 1);
        x.ticks(1);
        check.due("both", x.device(0, 2, 3), 3);
        x.mend(0, 2);
        check.due("neither", x.device(0, 2, 3), 0);
    }

    private static void run(Check check) {
        TunnelWatch x = Scene.fans(0, 2, 0);
        for (int tube = 0; tube < 2; tube++) {
            for (int d = 0; d < 2; d++) {
                check.due("signals and barriers", x.device(tube, d, 4), NONE);
            }
        }
        check.due("at first", x.device(0, 2, 4), 0);
        x.wish(0, 1, 1);
        x.ticks(1);
        check.due("a tick", x.device(0, 2, 4), 1);
        x.ticks(199);
        check.due("200 ticks", x.device(0, 2, 4), 200);
        check.due("another fan", x.device(0, 3, 4), 0);
        x.ticks(1);
        check.due("signals, though there were ticks", x.device(0, 0, 4), NONE);
    }

    private static void rest(Check check) {
        for (int rest : new int[] {0, 1, 3, 300}) {
            TunnelWatch x = Scene.fans(rest, 1, 0);
            check.due("signals", x.device(0, 0, 5), NONE);
            check.due("a barrier", x.device(0, 1, 5), NONE);
            check.due("it never blew", x.device(0, 2, 5), 0);
            x.ticks(5);
            check.due("it never blew", x.device(0, 2, 5), 0);
            x.wish(0, 1, 1);
            x.ticks(1);
            check.due("REST while it blows", x.device(0, 2, 5), rest);
            x.ticks(20);
            check.due("REST while it blows", x.device(0, 2, 5), rest);
            x.wish(0, 1, 0);
            x.ticks(1);
            check.due("in the tick of its stop", x.device(0, 2, 5), rest);
            for (int ago = 1; ago <= 4; ago++) {
                x.ticks(1);
                check.due(ago + " ticks of " + rest, x.device(0, 2, 5), Math.max(0, rest - ago));
            }
        }
        TunnelWatch x = Scene.fans(300, 1, 0);
        x.wish(0, -1, 1);
        x.ticks(1);
        x.wish(0, -1, 0);
        x.ticks(200);
        x.ticks(100);
        check.due("299 ticks of 300", x.device(0, 2, 5), 1);
        x.ticks(1);
        check.due("300 ticks of 300", x.device(0, 2, 5), 0);
        x.ticks(200);
        check.due("500 ticks of 300", x.device(0, 2, 5), 0);
        x.wish(0, -1, 1);
        x.ticks(1);
        check.due("REST again", x.device(0, 2, 5), 300);
        Refusals.refuses(check, "device");
    }

    // ---- promises 19 and 20

    private static void load(Check check) {
        TunnelWatch x = Scene.tunnel(0, 1000, Scene.kw(10), Scene.kw(20));
        check.due("at first", x.load(), 0);
        x.wish(0, 1, 1);
        check.due("ahead of the tick", x.load(), 0);
        x.ticks(1);
        check.due("a start", x.load(), 30);
        x.limit(5);
        check.due("a limit does not count ahead of a tick", x.load(), 30);
        x.limit(1000);
        x.ticks(9);
        check.due("started 9 ticks ago", x.load(), 30);
        x.wish(1, -1, 1);
        x.ticks(1);
        check.due("started 10 ticks ago, and in the other tube now", x.load(), 70);
        x.limit(0);
        x.ticks(1);
        check.due("all are stopped", x.load(), 0);
        TunnelWatch most = new TunnelWatch(2, 0, 100000);
        for (int f = 0; f < 12; f++) {
            most.fan(0, 1000);
            most.fan(1, 1000);
        }
        most.wish(0, 1, 12);
        most.wish(1, -1, 12);
        most.ticks(71);
        check.due("24 fans, 3 of them started now", most.load(), 24000 + 6000);
        most.ticks(10);
        check.due("24 fans", most.load(), 24000);
    }

    private static void starts(Check check) {
        TunnelWatch x = Scene.fans(0, 12, 12);
        check.due("at first", x.starts(), 0);
        x.ticks(1);
        check.due("none", x.starts(), 0);
        x.wish(0, 1, 1);
        x.ticks(1);
        check.due("in tick 2", x.starts(), 1);
        x.wish(1, 1, 2);
        x.ticks(1);
        check.due("in ticks 2 and 3", x.starts(), 3);
        x.wish(0, 1, 0);
        x.ticks(8);
        check.due("a stop takes none away", x.starts(), 3);
        x.ticks(1);
        check.due("that of tick 2 is 10 ticks ago", x.starts(), 2);
        x.ticks(1);
        check.due("those of tick 3 are 10 ticks ago", x.starts(), 0);
        x.ticks(100);
        check.due("none any more", x.starts(), 0);
        turningIsAStart(check);
    }

    private static void turningIsAStart(Check check) {
        TunnelWatch x = Scene.fans(0, 1, 0);
        for (int t = 1; t <= 3; t++) {
            x.wish(0, t % 2 == 0 ? 1 : -1, 1);
            x.ticks(1);
            check.due("turned in one tick", x.starts(), t);
        }
        x.wish(0, 1, 1);
        x.ticks(1);
        check.due("a fourth one is refused", x.starts(), 3);
        check.dueText("it stands", Scene.air(x, 0), "0");
        x.ticks(7);
        check.due("tick 11 has a start again", x.starts(), 3);
        check.dueText("it blows", Scene.air(x, 0), "1");
    }

    // ---- promise 21: the steps keep each of these from being so, up to its very edge

    private static void brokenByLoad(Check check) {
        TunnelWatch x = Scene.tunnel(0, 60, Scene.kw(10, 10), Scene.kw());
        check.due("at first", x.broken(), 0);
        x.wish(0, 1, 2);
        x.ticks(1);
        check.due("as much as the limit", x.load(), 60);
        check.due("is not above it", x.broken(), 0);
        x.limit(59);
        check.due("above it ahead of a tick, not behind it", x.broken(), 0);
        x.ticks(1);
        check.due("the tick stops one", x.load(), 30);
        x.limit(0);
        x.ticks(50);
        check.due("none", x.broken(), 0);
    }

    private static void brokenByStarts(Check check) {
        TunnelWatch x = Scene.fans(0, 12, 12);
        x.wish(0, 1, 12);
        x.wish(1, -1, 12);
        for (int t = 1; t <= 90; t++) {
            x.ticks(1);
            check.due("3 starts at most", x.starts() <= 3, true);
        }
        check.due("3 starts are not more than 3", x.broken(), 0);
    }

    private static void brokenByFans(Check check) {
        TunnelWatch x = Scene.fans(0, 4, 4);
        x.plan(0, 0, 1, -1, 4, 4);
        x.fail(0, 0);
        x.wish(0, 1, 2);
        x.wish(1, -1, 4);
        x.ticks(30);
        x.pull(0, 0);
        for (int t = 1; t <= 80; t++) {
            x.ticks(1);
            int[] seen = new int[3];
            for (int d = 2; d < 6; d++) {
                seen[1 + x.device(0, d, 0)]++;
            }
            check.due("fans of tube 0 blow against each other", seen[0] > 0 && seen[2] > 0, false);
        }
        check.due("turned in the end", x.tube(0, 4), 4);
        check.due("tubes may blow against each other", x.broken(), 0);
    }

    private static void brokenByRest(Check check) {
        TunnelWatch x = Scene.fans(9, 1, 0);
        x.wish(0, 1, 1);
        x.ticks(1);
        x.wish(0, -1, 1);
        x.ticks(9);
        check.dueText("it rests", Scene.air(x, 0), "0");
        x.ticks(1);
        check.dueText("it has RESTED", Scene.air(x, 0), "-1");
        x.wish(0, -1, 0);
        x.ticks(1);
        x.wish(0, -1, 1);
        x.ticks(1);
        check.dueText("no rest is needed for its last direction", Scene.air(x, 0), "-1");
        check.due("none", x.broken(), 0);
    }

    private static void brokenByBarrier(Check check) {
        TunnelWatch x = new TunnelWatch(2, 0, 100);
        x.fail(0, 0);
        x.lag(1, 0, 5);
        x.pull(0, 0);
        x.ticks(5);
        check.due("neither is HALTED", Scene.barrier(x, 0) + Scene.barrier(x, 1), 0);
        x.ticks(1);
        check.due("HALTED by its state", Scene.barrier(x, 1), Scene.CLOSED);
        x.ticks(54);
        check.due("not HALTED", Scene.barrier(x, 0), 0);
        x.ticks(1);
        check.due("HALTED by its 60 ticks", Scene.barrier(x, 0), Scene.CLOSED);
        x.ticks(100);
        check.due("none", x.broken(), 0);
    }

    private static void brokenBySignals(Check check) {
        TunnelWatch x = new TunnelWatch(2, 0, 100);
        x.lag(0, 1, 5);
        x.fail(1, 1);
        for (int round = 0; round < 3; round++) {
            x.pull(round % 2, 0);
            for (int t = 0; t < 10; t++) {
                x.ticks(1);
                notOpenBehindClosed(check, x);
            }
            x.reset(round % 2);
            for (int t = 0; t < 10; t++) {
                x.ticks(1);
                notOpenBehindClosed(check, x);
            }
        }
        check.due("none", x.broken(), 0);
    }

    private static void notOpenBehindClosed(Check check, TunnelWatch x) {
        for (int tube = 0; tube < 2; tube++) {
            boolean isSo = Scene.barrier(x, tube) == Scene.CLOSED && Scene.signals(x, tube) != Scene.STOP;
            check.due("CLOSED behind OPEN", isSo, false);
        }
    }
}
