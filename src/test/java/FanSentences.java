/** A tick's steps 4 to 6: fans are stopped and started; and what LOAD and RESTED are. */
final class FanSentences {
    private FanSentences() { }

    static void test(Sentences doc) {
        doc.test("4. Fans are stopped, tube by tube: if no fire counts, or the tube is HALTED, those that blow (by "
                + "command) against the wanted direction;", FanSentences::stopAgainst);
        doc.test("then, as long as more blow in the wanted direction than wanted, the one of these that has RUN "
                + "longest, of these the least.", FanSentences::stopTooMany);
        doc.test("5. As long as the LOAD is above the limit, a fan is stopped:", FanSentences::aboveTheLimit);
        doc.test("in the tube without the fire that counts (without a fire: in tube 1) before the other one, the one "
                + "that has run longest, of these the least.", FanSentences::shedWhich);
        doc.test("6. Fans are started, first in the tube with the fire that counts (without: 0), then in the other "
                + "one:", FanSentences::startWhere);
        doc.test("if none blows against the wanted direction, as long as less blow than wanted:",
                FanSentences::startHowMany);
        doc.test("of those that stand, are not OUT and have RESTED for the direction, the one that has run least, of "
                + "these the least one.", FanSentences::startWhich);
        doc.test("None is started any more in this tick when, with it, there would be more than 3 STARTS in the last "
                + "10 ticks (this one with them)", FanSentences::threeStarts);
        doc.test("or a load above the limit.", FanSentences::startsByLoad);
        doc.test("Last, each fan whose command is not 0 has run one tick more.", FanSentences::run);
        doc.test("The LOAD is that of all fans whose command is not 0: three times the kW of one that was started "
                + "less than 10 ticks ago, the kW of others.", FanSentences::load);
        doc.test("A fan has RESTED for a direction if it never blew, or blew last in this direction, or its command "
                + "became 0 REST ticks ago or more.", FanSentences::rested);
    }

    private static void airIs(Check check, String what, TunnelWatch x, String first, String second) {
        check.dueText(what + ", tube 0", Scene.air(x, 0), first);
        check.dueText(what + ", tube 1", Scene.air(x, 1), second);
    }

    // ---- step 4

    private static void stopAgainst(Check check) {
        TunnelWatch free = Scene.fans(50, 2, 1);
        free.wish(0, 1, 2);
        free.wish(1, -1, 1);
        free.ticks(12);
        free.wish(0, -1, 2);
        free.sense(1, 0, 50);
        free.ticks(1);
        airIs(check, "no fire counts", free, "0 0", "-1");
        for (int lag = 1; lag <= 5; lag++) {
            TunnelWatch x = turning(lag);
            x.ticks(lag);
            airIs(check, "LAG " + lag + ": tube 0 not HALTED", x, "1 1", lag > 1 ? "0 0" : "-1 -1");
            x.ticks(1);
            airIs(check, "LAG " + lag + ": both HALTED", x, "0 0", "0 0");
        }
        TunnelWatch failed = turning(1);
        failed.fail(0, 0);
        failed.ticks(60);
        check.dueText("STOP sent 59 ticks ago", Scene.air(failed, 0), "1 1");
        failed.ticks(1);
        check.dueText("STOP sent 60 ticks ago", Scene.air(failed, 0), "0 0");
    }

    /** A fire in tube 0 that is to turn the air of both tubes; the lag is that of tube 0's signals. */
    private static TunnelWatch turning(int lag) {
        TunnelWatch x = Scene.fans(300, 2, 2);
        x.plan(0, 0, 1, -1, 2, 2);
        x.lag(0, 0, lag);
        x.wish(0, 1, 2);
        x.wish(1, -1, 2);
        x.ticks(20);
        x.pull(0, 0);
        return x;
    }

    private static void stopTooMany(Check check) {
        TunnelWatch x = Scene.fans(0, 4, 2);
        x.wish(0, 1, 3);
        x.ticks(11);
        x.wish(0, 1, 4);
        x.ticks(11);
        check.dueText("as many as wanted", Scene.air(x, 0), "1 1 1 1");
        x.wish(0, 1, 3);
        x.ticks(1);
        check.dueText("one too many: three have run longest", Scene.air(x, 0), "0 1 1 1");
        x.wish(0, 1, 1);
        x.ticks(1);
        check.dueText("two too many: the last has run least", Scene.air(x, 0), "0 0 0 1");
        x.wish(0, 1, 0);
        x.ticks(1);
        check.dueText("none is wanted", Scene.air(x, 0), "0 0 0 0");
        runCountsAlone(check);
        inAFire(check);
    }

    /** The greater fan has run longer, by one tick. */
    private static void runCountsAlone(Check check) {
        TunnelWatch x = Scene.fans(0, 2, 0);
        x.fail(0, 2);
        x.wish(0, 1, 1);
        x.ticks(11);
        check.dueText("fan 0 is OUT after 10 ticks", Scene.air(x, 0), "0 1");
        x.ticks(11);
        x.mend(0, 2);
        x.wish(0, 1, 2);
        x.ticks(1);
        check.due("fan 0 has run", x.device(0, 2, 4), 11);
        check.due("fan 1 has run", x.device(0, 3, 4), 13);
        x.wish(0, 1, 1);
        x.ticks(1);
        check.dueText("the one that has run longest", Scene.air(x, 0), "1 0");
    }

    private static void inAFire(Check check) {
        TunnelWatch x = Scene.fans(0, 3, 3);
        x.plan(0, 0, 1, 1, 1, 2);
        x.fail(0, 0);
        x.fail(1, 0);
        x.wish(0, 1, 3);
        x.wish(1, 1, 3);
        x.ticks(30);
        x.pull(0, 0);
        x.ticks(1);
        airIs(check, "a fire, and not HALTED", x, "0 0 1", "0 1 1");
    }

    // ---- step 5

    private static void aboveTheLimit(Check check) {
        TunnelWatch x = Scene.tunnel(0, 1000, Scene.kw(10, 20, 40), Scene.kw());
        x.wish(0, 1, 3);
        x.ticks(5);
        x.limit(210);
        x.ticks(1);
        check.due("as much as the limit", x.load(), 210);
        x.ticks(10);
        check.due("the starts are over", x.load(), 70);
        x.limit(70);
        x.ticks(1);
        check.dueText("as much as the limit", Scene.air(x, 0), "1 1 1");
        x.limit(69);
        x.ticks(1);
        check.dueText("1 kW above it: fan 0, which would need 30 to start", Scene.air(x, 0), "0 1 1");
        x.limit(29);
        x.ticks(1);
        check.dueText("one stopped is not enough", Scene.air(x, 0), "0 0 0");
        TunnelWatch none = Scene.tunnel(0, 3, Scene.kw(1), Scene.kw());
        none.wish(0, 1, 1);
        none.ticks(1);
        none.limit(0);
        none.ticks(1);
        check.due("a limit of 0", none.load(), 0);
        startsCount(check);
        allAtOnce(check);
        thoseAgainstToo(check);
    }

    private static void allAtOnce(Check check) {
        TunnelWatch x = Scene.fans(0, 12, 12);
        x.wish(0, 1, 12);
        x.wish(1, -1, 12);
        x.ticks(81);
        check.due("24 fans", x.load(), 24);
        x.limit(0);
        x.ticks(1);
        check.due("all are stopped in one tick", x.load(), 0);
    }

    private static void thoseAgainstToo(Check check) {
        TunnelWatch x = Scene.tunnel(0, 1000, Scene.kw(10), Scene.kw());
        x.plan(0, 0, 1, -1, 1, 0);
        x.lag(0, 0, 5);
        x.wish(0, 1, 1);
        x.ticks(20);
        x.pull(0, 0);
        x.limit(9);
        x.ticks(1);
        check.dueText("one that blows against the wanted direction, and no HALT", Scene.air(x, 0), "0");
    }

    /** Above the limit only as long as starts count three times. */
    private static void startsCount(Check check) {
        TunnelWatch x = Scene.tunnel(0, 1000, Scene.kw(10), Scene.kw());
        x.wish(0, 1, 1);
        x.ticks(9);
        x.limit(29);
        x.ticks(1);
        check.due("started 9 ticks ago", x.load(), 0);
        TunnelWatch later = Scene.tunnel(0, 1000, Scene.kw(10), Scene.kw());
        later.wish(0, 1, 1);
        later.ticks(10);
        later.limit(29);
        later.ticks(1);
        check.due("started 10 ticks ago", later.load(), 10);
    }

    private static void shedWhich(Check check) {
        for (int fire = -1; fire < 2; fire++) {
            TunnelWatch x = blowing(fire);
            int early = fire == 1 ? 0 : 1;
            int late = 1 - early;
            String what = fire < 0 ? "without a fire" : "a fire in tube " + fire;
            airIs(check, what, x, "1 1 1", "1 1 1");
            x.limit(50);
            x.ticks(1);
            check.dueText(what + ", first the one that has run longest", Scene.air(x, early), "1 1 0");
            check.dueText(what + ", not yet", Scene.air(x, late), "1 1 1");
            x.limit(40);
            x.ticks(1);
            check.dueText(what + ", then the least of the others", Scene.air(x, early), "0 1 0");
            x.limit(30);
            x.ticks(1);
            check.dueText(what + ", then the last one", Scene.air(x, early), "0 0 0");
            check.dueText(what + ", not yet", Scene.air(x, late), "1 1 1");
            x.limit(20);
            x.ticks(1);
            check.dueText(what + ", then in the other tube", Scene.air(x, late), "1 1 0");
            x.limit(0);
            x.ticks(1);
            airIs(check, what + ", then all", x, "0 0 0", "0 0 0");
        }
    }

    /** All six fans of 10 kW blow; in each tube fan 2 has run longest, and the others alike. */
    private static TunnelWatch blowing(int fire) {
        TunnelWatch x = Scene.tunnel(0, 1000, Scene.kw(10, 10, 10), Scene.kw(10, 10, 10));
        x.plan(0, 0, 5, 1, 3, 3);
        x.plan(1, 0, 5, 1, 3, 3);
        for (int tube = 0; tube < 2; tube++) {
            x.wish(tube, 1, 3);
            x.ticks(12);
            x.wish(tube, 1, 1);
            x.ticks(12);
            x.wish(tube, 1, 3);
            x.ticks(12);
        }
        if (fire >= 0) {
            x.pull(fire, 0);
        }
        x.ticks(1);
        return x;
    }

    // ---- step 6

    private static void startWhere(Check check) {
        for (int fire = -1; fire < 2; fire++) {
            TunnelWatch x = Scene.fans(0, 4, 4);
            x.plan(0, 0, 5, 1, 2, 4);
            x.plan(1, 0, 5, 1, 2, 4);
            x.wish(0, 1, 2);
            x.wish(1, 1, 4);
            if (fire >= 0) {
                x.pull(fire, 0);
            }
            x.ticks(1);
            int early = fire == 1 ? 1 : 0;
            String what = fire < 0 ? "without a fire" : "a fire in tube " + fire;
            check.dueText(what + ", first", Scene.air(x, early), "1 1 0 0");
            check.dueText(what + ", then what is left of 3 starts", Scene.air(x, 1 - early), "1 0 0 0");
        }
        otherTubeGoesOn(check);
    }

    /** A tube that has no fan to start, or blows against the wanted direction, does not hinder the other one. */
    private static void otherTubeGoesOn(Check check) {
        TunnelWatch resting = Scene.fans(300, 1, 1);
        resting.wish(0, 1, 1);
        resting.ticks(1);
        resting.wish(0, -1, 1);
        resting.wish(1, 1, 1);
        resting.ticks(1);
        airIs(check, "a fan that rests", resting, "0", "1");
        TunnelWatch few = Scene.fans(0, 1, 1);
        few.wish(0, 1, 12);
        few.wish(1, 1, 1);
        few.ticks(1);
        airIs(check, "too few fans", few, "1", "1");
    }

    private static void startHowMany(Check check) {
        for (int fans = 0; fans <= 12; fans++) {
            TunnelWatch x = Scene.fans(0, 4, 4);
            x.wish(0, -1, fans);
            x.ticks(60);
            check.due(fans + " wanted of 4", x.tube(0, 4), Math.min(fans, 4));
        }
        TunnelWatch x = Scene.fans(0, 3, 1);
        x.plan(0, 0, 1, -1, 3, 1);
        x.lag(0, 0, 5);
        x.wish(0, 1, 1);
        x.ticks(20);
        x.pull(0, 0);
        x.ticks(5);
        airIs(check, "one blows against the wanted direction", x, "1 0 0", "1");
        x.ticks(1);
        check.due("none does any more", x.tube(0, 4) > 0, true);
    }

    private static void startWhich(Check check) {
        TunnelWatch x = Scene.fans(20, 4, 0);
        x.wish(0, 1, 1);
        x.ticks(1);
        check.dueText("the least", Scene.air(x, 0), "1 0 0 0");
        x.wish(0, 1, 0);
        x.ticks(11);
        x.wish(0, 1, 1);
        x.ticks(1);
        check.dueText("the least of those that have not run", Scene.air(x, 0), "0 1 0 0");
        x.wish(0, 1, 3);
        x.ticks(1);
        check.dueText("those that have not run", Scene.air(x, 0), "0 1 1 1");
        x.wish(0, 1, 4);
        x.ticks(20);
        check.dueText("those that stand", Scene.air(x, 0), "1 1 1 1");
        notOut(check);
        restedOnly(check);
        byRunAlone(check);
    }

    private static void notOut(Check check) {
        TunnelWatch x = Scene.fans(0, 3, 0);
        x.fail(0, 2);
        x.wish(0, 1, 1);
        x.ticks(11);
        check.dueText("not the OUT one", Scene.air(x, 0), "0 1 0");
        x.wish(0, 1, 3);
        x.ticks(50);
        check.dueText("not the OUT one", Scene.air(x, 0), "0 1 1");
        x.mend(0, 2);
        x.ticks(1);
        check.dueText("a mended one", Scene.air(x, 0), "1 1 1");
        TunnelWatch failed = Scene.fans(0, 1, 0);
        failed.fail(0, 2);
        failed.wish(0, 1, 1);
        failed.ticks(1);
        check.dueText("one that is only FAILED", Scene.air(failed, 0), "1");
    }

    private static void restedOnly(Check check) {
        TunnelWatch x = Scene.fans(20, 2, 0);
        x.wish(0, 1, 1);
        x.ticks(1);
        x.wish(0, -1, 2);
        x.ticks(1);
        check.dueText("one has not RESTED", Scene.air(x, 0), "0 -1");
        x.ticks(19);
        check.dueText("one has not RESTED", Scene.air(x, 0), "0 -1");
        x.ticks(1);
        check.dueText("it has", Scene.air(x, 0), "-1 -1");
    }

    /** Fan 0 has run 1 tick, fan 1 has run 2. */
    private static void byRunAlone(Check check) {
        TunnelWatch x = Scene.fans(0, 2, 0);
        x.wish(0, 1, 1);
        x.ticks(1);
        x.wish(0, 1, 0);
        x.ticks(1);
        x.wish(0, 1, 1);
        x.ticks(2);
        x.wish(0, 1, 0);
        x.ticks(1);
        check.due("fan 0", x.device(0, 2, 4), 1);
        check.due("fan 1", x.device(0, 3, 4), 2);
        x.wish(0, 1, 1);
        x.ticks(10);
        check.dueText("the one that has run least", Scene.air(x, 0), "1 0");
        x.wish(0, 1, 0);
        x.ticks(1);
        x.wish(0, 1, 1);
        x.ticks(1);
        check.dueText("the greater one, when it has run less", Scene.air(x, 0), "0 1");
    }

    private static void threeStarts(Check check) {
        TunnelWatch x = Scene.fans(0, 12, 12);
        x.wish(0, 1, 2);
        x.ticks(1);
        check.due("2 in tick 1", x.tube(0, 4), 2);
        x.wish(0, 1, 12);
        x.wish(1, 1, 12);
        x.ticks(1);
        check.due("a third one in tick 2", x.tube(0, 4), 3);
        check.due("and none in the other tube", x.tube(1, 4), 0);
        x.ticks(8);
        check.due("none until tick 10", x.tube(0, 4), 3);
        x.ticks(1);
        check.due("2 in tick 11", x.tube(0, 4), 5);
        x.ticks(1);
        check.due("1 in tick 12", x.tube(0, 4), 6);
        x.ticks(200);
        check.due("all in the end", x.tube(0, 4) + x.tube(1, 4), 24);
        acrossTubes(check);
        everyTick(check);
    }

    private static void acrossTubes(Check check) {
        TunnelWatch x = Scene.fans(0, 2, 3);
        x.wish(0, 1, 2);
        x.wish(1, 1, 3);
        x.ticks(1);
        airIs(check, "3 in both tubes", x, "1 1", "1 0 0");
        x.ticks(9);
        airIs(check, "3 in the last 10 ticks", x, "1 1", "1 0 0");
        x.ticks(1);
        airIs(check, "in tick 11", x, "1 1", "1 1 1");
    }

    /** A start in each tick as long as there may be one: 3 in 10 ticks, again and again. */
    private static void everyTick(Check check) {
        TunnelWatch x = Scene.fans(0, 2, 0);
        int[] starts = new int[65];
        for (int t = 1; t < 65; t++) {
            x.wish(0, t % 2 == 0 ? 1 : -1, 1);
            x.ticks(1);
            starts[t] = x.device(0, 2, 2) == t && x.device(0, 2, 0) != 0
                    || x.device(0, 3, 2) == t && x.device(0, 3, 0) != 0 ? 1 : 0;
            int inTen = 0;
            for (int s = Math.max(1, t - 9); s <= t; s++) {
                inTen += starts[s];
            }
            check.due("tick " + t, x.starts(), inTen);
            check.due("tick " + t, starts[t], t % 10 >= 1 && t % 10 <= 3 ? 1 : 0);
        }
    }

    private static void startsByLoad(Check check) {
        int[][] rows = {{89, 2}, {90, 3}, {91, 3}, {29, 0}, {30, 1}, {59, 1}, {60, 2}};
        for (int[] row : rows) {
            TunnelWatch x = Scene.tunnel(0, row[0], Scene.kw(10, 10), Scene.kw(10));
            x.wish(0, 1, 2);
            x.wish(1, 1, 1);
            x.ticks(1);
            check.due("fans at a limit of " + row[0], x.tube(0, 4) + x.tube(1, 4), row[1]);
            check.due("load at a limit of " + row[0], x.load(), 30 * row[1]);
        }
        TunnelWatch ended = Scene.tunnel(0, 100, Scene.kw(34, 1), Scene.kw(1));
        ended.wish(0, 1, 2);
        ended.wish(1, 1, 1);
        ended.ticks(5);
        airIs(check, "none is started any more, though a lesser one would do", ended, "0 0", "0");
        TunnelWatch blown = Scene.tunnel(0, 39, Scene.kw(10, 10), Scene.kw());
        blown.wish(0, 1, 2);
        blown.ticks(50);
        check.dueText("10 kW and a start are above 39", Scene.air(blown, 0), "1 0");
        blown.limit(40);
        blown.ticks(1);
        check.dueText("10 kW and a start are not above 40", Scene.air(blown, 0), "1 1");
    }

    private static void run(Check check) {
        TunnelWatch x = Scene.fans(0, 1, 1);
        x.wish(1, -1, 1);
        x.fail(1, 2);
        x.ticks(1);
        check.due("the tick of its start", x.device(1, 2, 4), 1);
        check.due("by command: it does not blow", x.device(1, 2, 1), 0);
        check.due("one that stands", x.device(0, 2, 4), 0);
        x.ticks(6);
        check.due("7 ticks", x.device(1, 2, 4), 7);
        x.mend(1, 2);
        x.wish(1, -1, 0);
        x.ticks(1);
        check.due("not the tick of its stop", x.device(1, 2, 4), 7);
        x.ticks(50);
        check.due("not while it stands", x.device(1, 2, 4), 7);
        x.wish(1, 1, 1);
        x.ticks(3);
        check.due("it goes on in another direction", x.device(1, 2, 4), 10);
    }

    // ---- load, rest

    private static void load(Check check) {
        TunnelWatch x = Scene.tunnel(0, 100000, Scene.kw(1000, 7), Scene.kw(1));
        x.wish(0, 1, 1);
        x.ticks(1);
        check.due("in the tick of the start", x.load(), 3000);
        x.wish(0, 1, 2);
        x.wish(1, -1, 1);
        x.ticks(1);
        check.due("more starts", x.load(), 3000 + 21 + 3);
        x.ticks(8);
        check.due("started 9 and 8 ticks ago", x.load(), 3024);
        x.ticks(1);
        check.due("started 10 and 9 ticks ago", x.load(), 1000 + 24);
        x.ticks(1);
        check.due("started 11 and 10 ticks ago", x.load(), 1008);
        x.fail(0, 2);
        x.wish(0, 1, 0);
        x.ticks(1);
        check.due("by command, though a FAILED one blows", x.load(), 1);
        check.due("it does", x.device(0, 2, 1), 1);
    }

    private static void rested(Check check) {
        for (int rest : new int[] {0, 1, 2, 15, 300}) {
            for (int ago = Math.max(0, rest - 1); ago <= rest + 1; ago++) {
                check.due("REST " + rest + ", " + ago + " ticks", turnsAfter(rest, ago), ago >= rest);
            }
        }
        TunnelWatch never = Scene.fans(300, 1, 1);
        never.wish(0, -1, 1);
        never.wish(1, 1, 1);
        never.ticks(1);
        airIs(check, "it never blew", never, "-1", "1");
        never.wish(0, -1, 0);
        never.ticks(1);
        never.wish(0, -1, 1);
        never.ticks(1);
        airIs(check, "it blew last in this direction", never, "-1", "1");
        turnedBack(check);
        restsWhenOut(check);
    }

    /** Whether a fan of a tunnel with this REST starts against its last direction so many ticks behind its stop. */
    private static boolean turnsAfter(int rest, int ago) {
        TunnelWatch x = Scene.fans(rest, 1, 0);
        x.wish(0, 1, 1);
        x.ticks(20);
        x.wish(0, 1, 0);
        for (int i = 0; i < ago; i++) {
            x.ticks(1);
        }
        x.wish(0, -1, 1);
        x.ticks(1);
        return x.device(0, 2, 0) == -1;
    }

    private static void turnedBack(Check check) {
        TunnelWatch x = Scene.fans(15, 1, 0);
        x.wish(0, 1, 1);
        x.ticks(1);
        x.wish(0, -1, 1);
        x.ticks(16);
        check.dueText("turned", Scene.air(x, 0), "-1");
        x.wish(0, 1, 1);
        x.ticks(15);
        check.dueText("it blew last in the other direction, not at first", Scene.air(x, 0), "0");
        x.ticks(1);
        check.dueText("it has RESTED again", Scene.air(x, 0), "1");
    }

    private static void restsWhenOut(Check check) {
        TunnelWatch x = Scene.fans(15, 1, 0);
        x.fail(0, 2);
        x.wish(0, 1, 1);
        x.ticks(11);
        x.mend(0, 2);
        x.wish(0, -1, 1);
        x.ticks(14);
        check.dueText("its command became 0 by OUT 14 ticks ago", Scene.air(x, 0), "0");
        x.ticks(1);
        check.dueText("15 ticks ago", Scene.air(x, 0), "-1");
    }
}
