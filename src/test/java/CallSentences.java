/** Promises 1 to 16: what there is, and what happens. */
final class CallSentences {
    private CallSentences() { }

    static void test(Sentences doc) {
        doc.test("Two tubes of so many sections (below 2 counts as 2, above 24 as 24)", CallSentences::sections);
        doc.test("fans' REST (0 .. 300, likewise)", CallSentences::rest);
        doc.test("a limit (0 .. 100000, likewise);", CallSentences::firstLimit);
        doc.test("all LAGs are 1.", CallSentences::firstLags);
        doc.test("A fan more in a tube: its number.", CallSentences::fan);
        doc.test("Illegal argument: kW are not 1 .. 1000;", CallSentences::fanKw);
        doc.test("illegal state: it has 12, or there was a tick.", CallSentences::fanTooMany);
        doc.test("A device's LAG: what it was. Illegal argument.", CallSentences::lag);
        doc.test("Rank and fans for its tube and the other one of a section's plan (directions below 0 are -1, "
                + "others 1).", CallSentences::plan);
        doc.test("Illegal argument: also if fans are not 0 .. 12;", CallSentences::planFans);
        doc.test("illegal state: there was a tick.", CallSentences::planTooLate);
        doc.test("The direction for the other tube of a section's plan, likewise.", CallSentences::turn);
        doc.test("Illegal argument; illegal state.", CallSentences::turnRefused);
        doc.test("A detector tells a value: what it told before. Illegal argument.", CallSentences::sense);
        doc.test("A detector is DEAF from now on, or is not: whether it was. Illegal argument.",
                CallSentences::deafen);
        doc.test("A section's post is pulled: whether it was not. Illegal argument.", CallSentences::pull);
        doc.test("The operator confirms: the post of the section where the tube is suspected is pulled.",
                CallSentences::confirm);
        doc.test("False when it is not suspected. Illegal argument.", CallSentences::confirmNothing);
        doc.test("The fire of a tube is over: no post is pulled, the tube has no fire.", CallSentences::reset);
        doc.test("False, changing nothing, when a detector of it is ON. Illegal argument.",
                CallSentences::resetWhileOn);
        doc.test("A tube's wish (directions below 0 are -1, others 1, as with plan()).", CallSentences::wish);
        doc.test("Illegal argument: fans are not 0 .. 12.", CallSentences::wishFans);
        doc.test("By order a tube's signals are to be at STOP, or not: whether they were to be. Illegal argument.",
                CallSentences::order);
        doc.test("The limit: what it was.", CallSentences::limit);
        doc.test("Illegal argument: it is not 0 .. 100000.", CallSentences::limitRefused);
        doc.test("A device is FAILED: whether it was not. Illegal argument.", CallSentences::fail);
        doc.test("A device is mended: not FAILED, not OUT, its actual state is its command: whether it was FAILED or "
                + "OUT. Illegal argument.", CallSentences::mend);
        doc.test("n ticks: the TIME.", CallSentences::ticks);
        doc.test("Illegal argument: n is not 1 .. 200;", CallSentences::ticksRefused);
        doc.test("illegal state: it would be above 20000.", CallSentences::ticksTooMany);
    }

    // ---- promise 1

    private static void sections(Check check) {
        int[][] rows = {{Integer.MIN_VALUE, 2}, {-1, 2}, {0, 2}, {1, 2}, {2, 2}, {3, 3}, {23, 23}, {24, 24}, {25, 24},
            {Integer.MAX_VALUE, 24}};
        for (int[] row : rows) {
            TunnelWatch x = new TunnelWatch(row[0], 0, 0);
            for (int tube = 0; tube < 2; tube++) {
                int t = tube;
                check.due(row[0] + " sections, the last", x.pull(t, row[1] - 1), true);
                check.illegalArgument(row[0] + " sections, one more", () -> x.pull(t, row[1]));
            }
        }
    }

    private static void rest(Check check) {
        int[][] rows = {{Integer.MIN_VALUE, 0}, {-1, 0}, {0, 0}, {1, 1}, {299, 299}, {300, 300}, {301, 300},
            {Integer.MAX_VALUE, 300}};
        for (int[] row : rows) {
            TunnelWatch x = Scene.fans(row[0], 1, 1);
            x.wish(0, 1, 1);
            x.wish(1, 1, 1);
            x.ticks(1);
            check.due("REST " + row[0], x.device(0, 2, 5), row[1]);
            check.due("REST " + row[0], x.device(1, 2, 5), row[1]);
        }
    }

    private static void firstLimit(Check check) {
        int[][] rows = {{Integer.MIN_VALUE, 0}, {-1, 0}, {0, 0}, {1, 1}, {99999, 99999}, {100000, 100000},
            {100001, 100000}, {Integer.MAX_VALUE, 100000}};
        for (int[] row : rows) {
            check.due("limit " + row[0], new TunnelWatch(2, 0, row[0]).limit(7), row[1]);
        }
        TunnelWatch x = Scene.tunnel(0, 0, Scene.kw(1), Scene.kw());
        x.wish(0, 1, 1);
        x.ticks(50);
        check.due("nothing starts at a limit of 0", x.load(), 0);
    }

    private static void firstLags(Check check) {
        TunnelWatch x = Scene.fans(0, 12, 12);
        for (int tube = 0; tube < 2; tube++) {
            for (int d = 0; d < 14; d++) {
                check.due("device " + d, x.lag(tube, d, 2), 1);
            }
        }
    }

    // ---- promises 2 to 5

    private static void fan(Check check) {
        TunnelWatch x = new TunnelWatch(2, 0, 100);
        for (int f = 0; f < 12; f++) {
            check.due("tube 0", x.fan(0, 1), f);
            check.due("tube 1", x.fan(1, 1000), f);
        }
    }

    private static void fanKw(Check check) {
        Refusals.refuses(check, "fan");
        TunnelWatch x = Scene.tunnel(0, 100000, Scene.kw(1), Scene.kw(1000));
        x.wish(0, 1, 1);
        x.ticks(1);
        check.due("1 kW", x.load(), 3);
        x.wish(0, 1, 0);
        x.wish(1, 1, 1);
        x.ticks(1);
        check.due("1000 kW", x.load(), 3000);
    }

    private static void fanTooMany(Check check) {
        TunnelWatch x = Scene.fans(0, 12, 11);
        check.illegalState("a 13th one", () -> x.fan(0, 1));
        check.due("a 12th one in the other tube", x.fan(1, 1), 11);
        check.illegalState("a 13th one there", () -> x.fan(1, 1));
        check.due("devices", Scene.devices(x, 0) + Scene.devices(x, 1), 28);
        TunnelWatch late = new TunnelWatch(2, 0, 100);
        late.fan(0, 1);
        late.ticks(1);
        check.illegalState("behind a tick", () -> late.fan(0, 1));
        check.illegalState("behind a tick, the first of its tube", () -> late.fan(1, 1));
        check.due("devices", Scene.devices(late, 0) + Scene.devices(late, 1), 5);
    }

    private static void lag(Check check) {
        TunnelWatch x = Scene.fans(0, 12, 1);
        int[] devices = {0, 1, 2, 13};
        for (int d : devices) {
            check.due("at first", x.lag(0, d, 0), 1);
            check.due("0", x.lag(0, d, 5), 0);
            check.due("5", x.lag(0, d, 2), 5);
        }
        check.due("another fan's", x.lag(0, 3, 2), 1);
        check.due("the other tube's", x.lag(1, 2, 2), 1);
        x.ticks(10);
        check.due("behind ticks", x.lag(0, 13, 3), 2);
        Refusals.refuses(check, "lag");
    }

    private static void plan(Check check) {
        int[][] rows = {{Integer.MIN_VALUE, -1}, {-2, -1}, {-1, -1}, {0, 1}, {1, 1}, {Integer.MAX_VALUE, 1}};
        for (int[] row : rows) {
            for (int tube = 0; tube < 2; tube++) {
                TunnelWatch x = new TunnelWatch(2, 0, 100);
                x.plan(tube, 1, 0, row[0], 3, 4);
                x.pull(tube, 1);
                x.ticks(1);
                check.due("direction " + row[0], x.tube(tube, 2), row[1]);
                check.due("its fans", x.tube(tube, 3), 3);
                check.due("the other one's direction", x.tube(1 - tube, 2), 1);
                check.due("the other one's fans", x.tube(1 - tube, 3), 4);
            }
        }
        TunnelWatch again = new TunnelWatch(2, 0, 100);
        again.plan(0, 0, 100, -1, 12, 12);
        again.plan(0, 0, 0, 1, 0, 1);
        again.plan(0, 1, 1, 1, 1, 1);
        again.pull(0, 0);
        again.ticks(1);
        check.due("the plan told last: direction", again.tube(0, 2), 1);
        check.due("fans", again.tube(0, 3), 0);
        check.due("the other one's fans", again.tube(1, 3), 1);
        again.pull(0, 1);
        again.ticks(1);
        check.due("rank", again.tube(0, 1), 1);
    }

    private static void planFans(Check check) {
        Refusals.refuses(check, "plan");
    }

    private static void planTooLate(Check check) {
        TunnelWatch x = new TunnelWatch(2, 0, 100);
        check.legal("ahead of the first tick", () -> x.plan(1, 0, 5, -1, 1, 2));
        x.ticks(1);
        check.illegalState("behind it", () -> x.plan(1, 0, 6, 1, 3, 4));
        x.pull(1, 0);
        x.ticks(1);
        check.due("the plan's direction", x.tube(1, 2), -1);
        check.due("the plan's fans", x.tube(1, 3), 1);
        check.due("the other one's fans", x.tube(0, 3), 2);
        check.illegalState("in a fire", () -> x.plan(1, 0, 6, 1, 3, 4));
    }

    private static void turn(Check check) {
        int[][] rows = {{Integer.MIN_VALUE, -1}, {-2, -1}, {-1, -1}, {0, 1}, {1, 1}, {Integer.MAX_VALUE, 1}};
        for (int[] row : rows) {
            for (int tube = 0; tube < 2; tube++) {
                TunnelWatch x = new TunnelWatch(2, 0, 100);
                x.turn(tube, 1, -row[1]);
                x.turn(tube, 1, row[0]);
                x.pull(tube, 1);
                x.ticks(1);
                check.due("direction " + row[0], x.tube(1 - tube, 2), row[1]);
                check.due("that of its own tube", x.tube(tube, 2), 1);
                check.due("fans", x.tube(0, 3) + x.tube(1, 3), 0);
            }
        }
        TunnelWatch x = new TunnelWatch(2, 0, 100);
        x.plan(0, 0, 5, 1, 1, 2);
        x.turn(0, 0, -1);
        x.pull(0, 0);
        x.ticks(1);
        check.due("behind plan(): its own direction", x.tube(0, 2), 1);
        check.due("the other one's", x.tube(1, 2), -1);
        check.due("fans stay", x.tube(0, 3) * 10 + x.tube(1, 3), 12);
    }

    private static void turnRefused(Check check) {
        Refusals.refuses(check, "turn");
        TunnelWatch x = new TunnelWatch(2, 0, 100);
        x.ticks(1);
        check.illegalState("behind a tick", () -> x.turn(0, 0, -1));
        x.pull(0, 0);
        x.ticks(1);
        check.due("not turned", x.tube(1, 2), 1);
    }

    // ---- promises 6 to 10

    private static void sense(Check check) {
        TunnelWatch x = new TunnelWatch(24, 0, 100);
        check.due("at first", x.sense(1, 23, 100), 0);
        check.due("100", x.sense(1, 23, 49), 100);
        check.due("49", x.sense(1, 23, 50), 49);
        check.due("the other tube's", x.sense(0, 23, 1), 0);
        check.due("another section's", x.sense(1, 22, 1), 0);
        x.ticks(1);
        check.due("a value stays", x.sense(1, 23, 50), 50);
        Refusals.refuses(check, "sense");
    }

    private static void deafen(Check check) {
        TunnelWatch x = new TunnelWatch(24, 0, 100);
        check.due("at first", x.deafen(0, 23, true), false);
        check.due("DEAF", x.deafen(0, 23, true), true);
        check.due("the other tube's", x.deafen(1, 23, false), false);
        check.due("another section's", x.deafen(0, 22, false), false);
        x.sense(0, 23, 100);
        x.ticks(1);
        check.due("DEAF from now on", x.tube(0, 0), 0);
        check.due("DEAF still", x.deafen(0, 23, false), true);
        check.due("not DEAF", x.deafen(0, 23, false), false);
        x.ticks(1);
        check.due("not DEAF from now on", x.tube(0, 0), 1);
        check.due("what a DEAF one told is its value", x.sense(0, 23, 0), 100);
        Refusals.refuses(check, "deafen");
    }

    private static void pull(Check check) {
        TunnelWatch x = new TunnelWatch(24, 0, 100);
        check.due("it was not", x.pull(0, 0), true);
        check.due("it was", x.pull(0, 0), false);
        check.due("the other tube's", x.pull(1, 0), true);
        check.due("the last section's", x.pull(0, 23), true);
        x.ticks(1);
        check.due("it was", x.pull(0, 23), false);
        Refusals.refuses(check, "pull");
    }

    private static void confirm(Check check) {
        TunnelWatch x = new TunnelWatch(24, 0, 100);
        x.sense(0, 23, 50);
        x.sense(0, 5, 50);
        x.ticks(1);
        check.due("suspected", x.confirm(0), true);
        check.due("judged by the next tick", x.tube(0, 0), 1);
        check.due("the post there is pulled", x.pull(0, 5), false);
        check.due("not the other one", x.pull(1, 5), true);
        check.due("not another one", x.pull(0, 23), true);
        x.ticks(1);
        check.due("confirmed", x.tube(0, 0), 2);
        check.due("where it was suspected", x.tube(0, 1), 5);
        TunnelWatch moved = new TunnelWatch(24, 0, 100);
        moved.sense(0, 9, 50);
        moved.ticks(1);
        moved.sense(0, 9, 0);
        moved.sense(0, 2, 50);
        check.due("suspected as judged last", moved.confirm(0), true);
        check.due("the post where it was suspected then", moved.pull(0, 9), false);
        check.due("not where a detector is ON since", moved.pull(0, 2), true);
    }

    private static void confirmNothing(Check check) {
        TunnelWatch x = new TunnelWatch(24, 0, 100);
        check.due("no fire", x.confirm(0), false);
        x.sense(0, 5, 50);
        check.due("not judged yet", x.confirm(0), false);
        x.ticks(1);
        check.due("the other tube is suspected", x.confirm(1), false);
        check.due("suspected", x.confirm(0), true);
        x.ticks(1);
        check.due("confirmed", x.confirm(0), false);
        x.sense(0, 5, 0);
        x.reset(0);
        check.due("reset", x.confirm(0), false);
        check.due("no post is pulled", x.pull(0, 5) && x.pull(0, 0) && x.pull(1, 5), true);
        Refusals.refuses(check, "confirm");
    }

    private static void reset(Check check) {
        TunnelWatch x = new TunnelWatch(24, 0, 100);
        check.due("without a fire", x.reset(0), true);
        for (int s = 0; s < 24; s++) {
            x.pull(0, s);
        }
        x.pull(1, 3);
        x.ticks(1);
        check.due("confirmed", x.reset(0), true);
        check.due("no fire", x.tube(0, 0), 0);
        check.due("no section", x.tube(0, 1), TunnelWatch.NONE);
        check.due("the other tube's stays", x.tube(1, 0), 2);
        x.ticks(1);
        check.due("no fire is found again", x.tube(0, 0), 0);
        for (int s = 0; s < 24; s++) {
            check.due("no post is pulled", x.pull(0, s), true);
        }
        check.due("the other tube's post is", x.pull(1, 3), false);
        check.due("pulled, but not judged yet", x.reset(0), true);
        x.ticks(1);
        check.due("no post is pulled", x.tube(0, 0), 0);
        x.sense(0, 1, 49);
        x.sense(0, 2, 100);
        x.deafen(0, 2, true);
        x.order(0, true);
        x.reset(0);
        check.due("a detector's value stays", x.sense(0, 1, 0), 49);
        check.due("a DEAF one's value stays", x.sense(0, 2, 0), 100);
        check.due("it is DEAF still", x.deafen(0, 2, false), true);
        check.due("an order stays", x.order(0, false), true);
    }

    private static void resetWhileOn(Check check) {
        for (int section : new int[] {0, 23}) {
            TunnelWatch x = new TunnelWatch(24, 0, 100);
            x.pull(0, 7);
            x.ticks(1);
            x.sense(0, section, 50);
            check.due("ON", x.reset(0), false);
            check.due("confirmed still", x.tube(0, 0), 2);
            check.due("where it was", x.tube(0, 1), 7);
            check.due("pulled still", x.pull(0, 7), false);
            x.sense(0, section, 49);
            x.sense(1, section, 100);
            check.due("only the other tube's is ON", x.reset(0), true);
            TunnelWatch deaf = new TunnelWatch(24, 0, 100);
            deaf.sense(0, section, 100);
            deaf.ticks(1);
            check.due("ON", deaf.reset(0), false);
            check.due("suspected still", deaf.tube(0, 0), 1);
            deaf.deafen(0, section, true);
            check.due("DEAF", deaf.reset(0), true);
            check.due("no fire", deaf.tube(0, 0), 0);
        }
        Refusals.refuses(check, "reset");
    }

    // ---- promises 11 to 16

    private static void wish(Check check) {
        int[][] rows = {{Integer.MIN_VALUE, -1}, {-2, -1}, {-1, -1}, {0, 1}, {1, 1}, {Integer.MAX_VALUE, 1}};
        for (int[] row : rows) {
            for (int tube = 0; tube < 2; tube++) {
                TunnelWatch x = Scene.fans(0, 1, 1);
                x.wish(tube, -row[1], 1);
                x.wish(tube, row[0], 1);
                x.ticks(1);
                check.due("direction " + row[0], x.tube(tube, 2), row[1]);
                check.due("its fan", x.device(tube, 2, 0), row[1]);
                check.due("the other tube's", x.tube(1 - tube, 3), 0);
            }
        }
    }

    private static void wishFans(Check check) {
        Refusals.refuses(check, "wish");
        TunnelWatch x = Scene.fans(0, 12, 0);
        x.wish(0, 1, 12);
        x.ticks(31);
        check.due("12", x.tube(0, 4), 12);
        x.wish(0, 1, 0);
        x.ticks(1);
        check.due("0", x.tube(0, 4), 0);
    }

    private static void order(Check check) {
        TunnelWatch x = new TunnelWatch(2, 0, 100);
        check.due("at first", x.order(0, false), false);
        check.due("not yet", x.order(0, true), false);
        check.due("ordered", x.order(0, true), true);
        check.due("the other tube's", x.order(1, false), false);
        x.ticks(1);
        check.due("STOP", Scene.signals(x, 0), Scene.STOP);
        check.due("the other tube's", Scene.signals(x, 1), 0);
        check.due("ordered still", x.order(0, false), true);
        check.due("no longer", x.order(0, false), false);
        x.ticks(1);
        check.due("OPEN", Scene.signals(x, 0), 0);
        x.pull(0, 0);
        x.ticks(1);
        check.due("at STOP, but not by order", x.order(0, false), false);
        Refusals.refuses(check, "order");
    }

    private static void limit(Check check) {
        TunnelWatch x = new TunnelWatch(2, 0, 55);
        check.due("that of the constructor", x.limit(0), 55);
        check.due("0", x.limit(100000), 0);
        check.due("100000", x.limit(1), 100000);
        x.ticks(1);
        check.due("behind a tick", x.limit(1), 1);
    }

    private static void limitRefused(Check check) {
        Refusals.refuses(check, "limit");
    }

    private static void fail(Check check) {
        TunnelWatch x = Scene.fans(0, 12, 1);
        for (int d : new int[] {0, 1, 2, 13}) {
            check.due("it was not", x.fail(0, d), true);
            check.due("it was", x.fail(0, d), false);
            check.due("FAILED", x.device(0, d, 3), 1);
            x.mend(0, d);
            check.due("it was mended", x.fail(0, d), true);
        }
        check.due("another fan", x.device(0, 3, 3), 0);
        check.due("the other tube's", x.device(1, 2, 3), 0);
        TunnelWatch out = Scene.fans(0, 1, 0);
        out.fail(0, 2);
        out.wish(0, 1, 1);
        out.ticks(11);
        check.due("FAILED and OUT: it was", out.fail(0, 2), false);
        Refusals.refuses(check, "fail");
    }

    private static void mend(Check check) {
        TunnelWatch x = Scene.fans(0, 1, 1);
        x.lag(0, 0, 5);
        for (int d = 0; d < 3; d++) {
            check.due("neither", x.mend(0, d), false);
            x.fail(0, d);
            check.due("FAILED", x.mend(0, d), true);
            check.due("not FAILED", x.device(0, d, 3), 0);
            check.due("neither any more", x.mend(0, d), false);
        }
        x.fail(0, 0);
        x.fail(0, 2);
        x.order(0, true);
        x.wish(0, -1, 1);
        x.ticks(1);
        x.mend(0, 0);
        check.due("its actual state, ahead of its LAG", x.device(0, 0, 1), 1);
        x.ticks(10);
        check.due("FAILED and OUT", x.device(0, 2, 3), 3);
        check.due("FAILED and OUT", x.mend(0, 2), true);
        check.due("neither FAILED nor OUT", x.device(0, 2, 3), 0);
        check.due("its command stays", x.device(0, 2, 0), 0);
        x.ticks(1);
        check.due("it is started again", x.device(0, 2, 0), -1);
        check.due("its LAG stays", x.lag(0, 0, 1), 5);
        mendedThatBlew(check);
        Refusals.refuses(check, "mend");
    }

    private static void mendedThatBlew(Check check) {
        TunnelWatch x = Scene.fans(0, 1, 0);
        x.wish(0, 1, 1);
        x.ticks(2);
        x.fail(0, 2);
        x.wish(0, 1, 0);
        x.ticks(11);
        check.due("it blows", x.device(0, 2, 1), 1);
        check.due("FAILED and OUT", x.mend(0, 2), true);
        check.due("it stands", x.device(0, 2, 1), 0);
        x.ticks(30);
        check.due("it is not OUT again", x.device(0, 2, 3), 0);
    }

    private static void ticks(Check check) {
        TunnelWatch x = busy();
        TunnelWatch one = busy();
        check.due("200 at once", x.ticks(200), 200);
        for (int i = 1; i <= 200; i++) {
            check.due("one by one", one.ticks(1), i);
        }
        check.dueText("200 at once are 200 one by one", Scene.told(x), Scene.told(one));
    }

    private static TunnelWatch busy() {
        TunnelWatch x = Scene.tunnel(5, 30, Scene.kw(1, 2, 3), Scene.kw(4, 5));
        x.plan(0, 0, 5, -1, 3, 2);
        x.fail(1, 2);
        x.lag(0, 0, 4);
        x.fail(1, 0);
        x.pull(0, 0);
        return x;
    }

    private static void ticksRefused(Check check) {
        Refusals.refuses(check, "ticks");
        TunnelWatch x = new TunnelWatch(2, 0, 100);
        check.illegalArgument("0", () -> x.ticks(0));
        check.illegalArgument("201", () -> x.ticks(201));
        check.due("1", x.ticks(1), 1);
        check.due("200", x.ticks(200), 201);
    }

    private static void ticksTooMany(Check check) {
        TunnelWatch x = new TunnelWatch(2, 0, 100);
        for (int i = 0; i < 99; i++) {
            x.ticks(200);
        }
        check.due("19801", x.ticks(1), 19801);
        check.illegalState("20001", () -> x.ticks(200));
        x.order(0, true);
        check.due("20000", x.ticks(199), 20000);
        check.due("the first of these sent STOP", x.device(0, 0, 2), 19802);
        check.illegalState("20001", () -> x.ticks(1));
        check.illegalState("20200", () -> x.ticks(200));
        check.due("all else goes on", x.sense(0, 0, 50), 0);
    }
}
