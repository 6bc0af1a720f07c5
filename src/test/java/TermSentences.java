import java.io.IOException;
import java.io.UncheckedIOException;
import java.nio.file.Files;
import java.nio.file.Path;

/** What there is: the document's first sentences and its terms. */
final class TermSentences {
    private TermSentences() { }

    static void test(Sentences doc) {
        doc.test("Watches the two tubes of a tunnel: judges fires, and turns the plan that counts into commands "
                + "for signals, barriers and fans, step by step, so that traffic is stopped before air is turned, "
                + "starts are few enough, and the feed is never asked for too much.", TermSentences::watches);
        doc.test("An object is used for at most 512 calls after it has been made; what later calls answer is free.",
                TermSentences::calls);
        doc.test("TUBES are 0 and 1.", TermSentences::tubes);
        doc.test("A tube has SECTIONS 0 .. n - 1", TermSentences::sections);
        doc.test("each with a DETECTOR (0 .. 100, 0 at first;", TermSentences::detector);
        doc.test("it is ON when it is 50 or more and not DEAF)", TermSentences::on);
        doc.test("SIGNALS, which are all OPEN (at first) or at STOP", TermSentences::signals);
        doc.test("a BARRIER, open (at first) or CLOSED", TermSentences::barrier);
        doc.test("and FANS 0, 1, .. (12 at most), each with its kW", TermSentences::twelveFans);
        doc.test("which stand (0, at first) or blow, -1 or 1.", TermSentences::standOrBlow);
        doc.test("A PLAN of a section of a tube has a RANK (0 .. 100)", TermSentences::rank);
        doc.test("a direction and how many fans (0 .. 12) for its tube, and likewise for the other one;",
                TermSentences::plannedFans);
        doc.test("as long as none is told all ranks and fans are 0, directions 1.", TermSentences::noPlan);
        doc.test("A tube has a WISH: a direction and how many fans (1 and 0 at first).", TermSentences::firstWish);
        doc.test("The FEED has a LIMIT in kW.", TermSentences::feed);
        doc.test("TIME is a number of ticks, 0 at first.", TermSentences::time);
        doc.test("DEVICES of a tube are 0 its signals, 1 its barrier, 2 + f fan f;", TermSentences::devices);
        doc.test("each has a LAG, 0 .. 5 ticks, a COMMAND and an ACTUAL state.", TermSentences::lag);
        doc.test("A device may be FAILED: it does not act then.", TermSentences::failed);
        doc.test("A command is sent when it changes.", TermSentences::sent);
        doc.test("Commands and actual states are 0 at first.", TermSentences::statesAtFirst);
        doc.test("The constants: `NONE = -1`: There is none.", TermSentences::none);
        doc.test("Ahead of the calls `fan`, `lag`, `plan`, `turn` the interface says: ---- what there is.",
                check -> ahead(check, "what there is", "fan", "lag", "plan", "turn"));
        doc.test("Ahead of the calls `sense`, `deafen`, `pull`, `confirm`, `reset`, `wish`, `order`, `limit`, `fail`, "
                + "`mend`, `ticks` the interface says: ---- what happens.",
                check -> ahead(check, "what happens", "sense", "deafen", "pull", "confirm", "reset", "wish", "order",
                        "limit", "fail", "mend", "ticks"));
        doc.test("Ahead of the calls `tube`, `device`, `load`, `starts`, `broken` the interface says: ---- what is "
                + "told.", check -> ahead(check, "what is told", "tube", "device", "load", "starts", "broken"));
    }

    // ---- what it is

    private static void watches(Check check) {
        TunnelWatch x = Scene.tunnel(5, 40, Scene.kw(3, 3, 3, 3), Scene.kw(4, 4));
        x.plan(0, 3, 50, -1, 4, 2);
        x.turn(0, 3, -1);
        x.lag(0, 0, 4);
        x.lag(1, 0, 2);
        x.wish(0, 1, 3);
        x.wish(1, 1, 1);
        x.ticks(40);
        check.dueText("air by the wish", Scene.air(x, 0), "1 1 1 0");
        x.pull(0, 3);
        for (int i = 0; i < 60; i++) {
            x.ticks(1);
            boolean isHalted = x.device(0, 0, 0) == 1 && x.device(0, 0, 1) == 1;
            check.due("air is turned before traffic is stopped", x.device(0, 2, 0) != 1 && !isHalted, false);
            check.due("too many starts", x.starts() > 3, false);
            check.due("the feed is asked for too much", x.load() > 40, false);
        }
        check.dueText("air by the plan", Scene.air(x, 0), "-1 -1 -1 -1");
        check.dueText("air by the plan", Scene.air(x, 1), "-1 -1");
    }

    private static void calls(Check check) {
        TunnelWatch x = new TunnelWatch(2, 0, 100);
        x.fan(0, 1);
        x.wish(0, 1, 1);
        for (int call = 3; call < 512; call++) {
            check.due("call " + call, x.ticks(39), 39 * (call - 2));
        }
        check.due("call 512", x.device(0, 2, 4), 39 * 509);
    }

    // ---- tubes and sections

    private interface OnTube {
        void call(TunnelWatch x, int tube);
    }

    /** Each call that names a tube, all else being within its bounds. */
    private static final OnTube[] ON_TUBE = {
        (x, t) -> x.fan(t, 1), (x, t) -> x.lag(t, 0, 1), (x, t) -> x.plan(t, 0, 1, 1, 1, 1),
        (x, t) -> x.turn(t, 0, 1), (x, t) -> x.sense(t, 0, 1), (x, t) -> x.deafen(t, 0, true),
        (x, t) -> x.pull(t, 0), (x, t) -> x.confirm(t), (x, t) -> x.reset(t), (x, t) -> x.wish(t, 1, 1),
        (x, t) -> x.order(t, true), (x, t) -> x.fail(t, 0), (x, t) -> x.mend(t, 0),
        (x, t) -> x.tube(t, 0), (x, t) -> x.device(t, 0, 0),
    };

    private static void tubes(Check check) {
        TunnelWatch x = new TunnelWatch(2, 0, 100);
        for (int i = 0; i < ON_TUBE.length; i++) {
            OnTube on = ON_TUBE[i];
            check.legal("call " + i + ", tube 0", () -> on.call(x, 0));
            check.legal("call " + i + ", tube 1", () -> on.call(x, 1));
            for (int t : Scene.NO_TUBES) {
                check.illegalArgument("call " + i + ", tube " + t, () -> on.call(x, t));
            }
        }
    }

    private interface OnSection {
        void call(TunnelWatch x, int tube, int section);
    }

    private static final OnSection[] ON_SECTION = {
        (x, t, s) -> x.plan(t, s, 1, 1, 1, 1), (x, t, s) -> x.turn(t, s, 1), (x, t, s) -> x.sense(t, s, 1),
        (x, t, s) -> x.deafen(t, s, true), (x, t, s) -> x.pull(t, s),
    };

    private static void sections(Check check) {
        for (int n : new int[] {2, 3, 23, 24}) {
            TunnelWatch x = new TunnelWatch(n, 0, 100);
            for (int i = 0; i < ON_SECTION.length; i++) {
                OnSection on = ON_SECTION[i];
                for (int tube = 0; tube < 2; tube++) {
                    int t = tube;
                    String what = "call " + i + ", tube " + t + " of " + n + " sections, section ";
                    check.legal(what + 0, () -> on.call(x, t, 0));
                    check.legal(what + (n - 1), () -> on.call(x, t, n - 1));
                    for (int s : new int[] {-1, n, Integer.MIN_VALUE, Integer.MAX_VALUE}) {
                        check.illegalArgument(what + s, () -> on.call(x, t, s));
                    }
                }
            }
        }
    }

    private static void detector(Check check) {
        TunnelWatch x = new TunnelWatch(24, 0, 100);
        for (int s = 0; s < 24; s++) {
            check.due("at first", x.sense(0, s, 100), 0);
            check.due("100", x.sense(0, s, 0), 100);
            check.due("0", x.sense(0, s, 0), 0);
        }
        for (int value : new int[] {-1, 101, Integer.MIN_VALUE, Integer.MAX_VALUE}) {
            check.illegalArgument("value " + value, () -> x.sense(0, 0, value));
        }
    }

    private static void on(Check check) {
        int[][] rows = {{0, 0}, {1, 0}, {49, 0}, {50, 1}, {51, 1}, {100, 1}};
        for (int[] row : rows) {
            TunnelWatch x = new TunnelWatch(4, 0, 100);
            x.sense(1, 3, row[0]);
            x.ticks(1);
            check.due(row[0] + " is ON", x.tube(1, 0), row[1]);
            check.due(row[0] + " hinders reset", x.reset(1), row[1] == 0);
            x.deafen(1, 3, true);
            x.ticks(1);
            check.due(row[0] + " and DEAF is ON", x.tube(1, 0), 0);
            check.due(row[0] + " and DEAF hinders reset", x.reset(1), true);
            x.deafen(1, 3, false);
            x.ticks(1);
            check.due(row[0] + " and no longer DEAF is ON", x.tube(1, 0), row[1]);
        }
    }

    // ---- signals, barriers, fans

    private static void signals(Check check) {
        TunnelWatch x = new TunnelWatch(2, 0, 100);
        for (int tube = 0; tube < 2; tube++) {
            check.due("command at first", x.device(tube, 0, 0), 0);
            check.due("actual at first", x.device(tube, 0, 1), 0);
        }
        x.ticks(1);
        check.due("OPEN without a cause", x.device(0, 0, 0), 0);
        x.order(0, true);
        x.ticks(2);
        check.due("STOP", x.device(0, 0, 0), 1);
        check.due("at STOP", x.device(0, 0, 1), 1);
        check.due("the other tube's", x.device(1, 0, 0), 0);
    }

    private static void barrier(Check check) {
        TunnelWatch x = new TunnelWatch(2, 0, 100);
        for (int tube = 0; tube < 2; tube++) {
            check.due("command at first", x.device(tube, 1, 0), 0);
            check.due("actual at first", x.device(tube, 1, 1), 0);
        }
        x.ticks(1);
        check.due("open without a cause", x.device(0, 1, 0), 0);
        x.pull(0, 0);
        x.ticks(3);
        check.due("CLOSED", x.device(0, 1, 0), 1);
        check.due("closed", x.device(0, 1, 1), 1);
    }

    private static void twelveFans(Check check) {
        TunnelWatch x = new TunnelWatch(2, 0, 100000);
        for (int tube = 0; tube < 2; tube++) {
            int t = tube;
            check.illegalArgument("no fan yet", () -> x.device(t, 2, 0));
            for (int f = 0; f < 12; f++) {
                check.due("fan", x.fan(t, 100 + f), f);
                check.due("its device is there", x.device(t, 2 + f, 0), 0);
            }
            check.illegalState("a 13th fan", () -> x.fan(t, 1));
            check.illegalArgument("its device", () -> x.device(t, 14, 0));
        }
        x.wish(0, 1, 12);
        x.wish(1, 1, 12);
        x.ticks(81);
        check.due("all blow", x.tube(0, 4) + x.tube(1, 4), 24);
        check.due("each with its kW", x.load(), 2 * (12 * 100 + 66));
    }

    private static void standOrBlow(Check check) {
        TunnelWatch x = Scene.fans(0, 1, 1);
        check.dueText("at first", Scene.air(x, 0) + Scene.air(x, 1), "00");
        x.ticks(1);
        check.dueText("stand without a wish", Scene.air(x, 0) + Scene.air(x, 1), "00");
        x.wish(0, -1, 1);
        x.wish(1, 1, 1);
        x.ticks(1);
        check.dueText("tube 0", Scene.air(x, 0), "-1");
        check.dueText("tube 1", Scene.air(x, 1), "1");
    }

    // ---- plans and wishes

    private static void rank(Check check) {
        TunnelWatch x = new TunnelWatch(4, 0, 100);
        for (int rank : new int[] {-1, 101, Integer.MIN_VALUE, Integer.MAX_VALUE}) {
            check.illegalArgument("rank " + rank, () -> x.plan(0, 0, rank, 1, 1, 1));
        }
        x.plan(0, 0, 0, 1, 1, 1);
        x.plan(0, 1, 99, 1, 1, 1);
        x.plan(0, 2, 100, 1, 1, 1);
        x.plan(0, 3, 99, 1, 1, 1);
        for (int s = 0; s < 4; s++) {
            x.pull(0, s);
        }
        x.ticks(1);
        check.due("the rank of 100 is the greatest", x.tube(0, 1), 2);
    }

    private static void plannedFans(Check check) {
        TunnelWatch x = new TunnelWatch(4, 0, 100);
        for (int fans : new int[] {-1, 13, Integer.MIN_VALUE, Integer.MAX_VALUE}) {
            check.illegalArgument("fans " + fans, () -> x.plan(0, 0, 1, 1, fans, 1));
            check.illegalArgument("other " + fans, () -> x.plan(0, 0, 1, 1, 1, fans));
        }
        x.plan(0, 0, 1, 1, 0, 12);
        x.plan(0, 1, 2, 1, 12, 0);
        x.pull(0, 0);
        x.ticks(1);
        check.due("0 for its tube", x.tube(0, 3), 0);
        check.due("12 for the other one", x.tube(1, 3), 12);
        x.pull(0, 1);
        x.ticks(1);
        check.due("12 for its tube", x.tube(0, 3), 12);
        check.due("0 for the other one", x.tube(1, 3), 0);
    }

    private static void noPlan(Check check) {
        for (int tube = 0; tube < 2; tube++) {
            TunnelWatch x = new TunnelWatch(24, 0, 100);
            x.wish(0, -1, 5);
            x.wish(1, -1, 7);
            x.pull(tube, 23);
            x.ticks(1);
            for (int each = 0; each < 2; each++) {
                check.due("direction of tube " + each, x.tube(each, 2), 1);
                check.due("fans of tube " + each, x.tube(each, 3), 0);
            }
            for (int s = 22; s >= 0; s--) {
                x.pull(tube, s);
            }
            x.ticks(1);
            check.due("no rank is greater than that of section 23", x.tube(tube, 1), 23);
        }
        TunnelWatch least = new TunnelWatch(4, 0, 100);
        least.plan(0, 2, 0, 1, 1, 1);
        least.pull(0, 2);
        least.pull(0, 1);
        least.ticks(1);
        check.due("a rank of 0 told is no greater one", least.tube(0, 1), 1);
        TunnelWatch told = new TunnelWatch(4, 0, 100);
        told.plan(0, 2, 1, 1, 1, 1);
        told.pull(0, 2);
        told.pull(0, 1);
        told.ticks(1);
        check.due("a rank of 1 told is", told.tube(0, 1), 2);
    }

    private static void firstWish(Check check) {
        TunnelWatch x = Scene.fans(0, 2, 2);
        x.ticks(20);
        for (int tube = 0; tube < 2; tube++) {
            check.due("direction", x.tube(tube, 2), 1);
            check.due("fans", x.tube(tube, 3), 0);
            check.dueText("none blows", Scene.air(x, tube), "0 0");
        }
    }

    private static void feed(Check check) {
        TunnelWatch x = Scene.tunnel(0, 300, Scene.kw(100), Scene.kw());
        x.wish(0, 1, 1);
        x.limit(299);
        x.ticks(1);
        check.due("299 kW do not bear a start of 100 kW", x.load(), 0);
        x.limit(300);
        x.ticks(1);
        check.due("300 kW do", x.load(), 300);
    }

    private static void time(Check check) {
        TunnelWatch x = new TunnelWatch(2, 0, 100);
        check.due("no tick yet: there may be a fan", x.fan(0, 1), 0);
        check.due("no tick yet", x.device(0, 0, 2), 0);
        check.due("the first tick", x.ticks(1), 1);
        check.due("the next ones", x.ticks(7), 8);
    }

    // ---- devices

    private interface OnDevice {
        void call(TunnelWatch x, int tube, int device);
    }

    private static final OnDevice[] ON_DEVICE = {
        (x, t, d) -> x.lag(t, d, 1), (x, t, d) -> x.fail(t, d), (x, t, d) -> x.mend(t, d),
        (x, t, d) -> x.device(t, d, 0), (x, t, d) -> x.device(t, d, 4), (x, t, d) -> x.device(t, d, 5),
    };

    private static void devices(Check check) {
        int[] fans = {0, 1, 12};
        for (int first : fans) {
            for (int second : fans) {
                TunnelWatch x = Scene.fans(0, first, second);
                devicesAre(check, x, 0, 2 + first);
                devicesAre(check, x, 1, 2 + second);
            }
        }
        TunnelWatch x = Scene.fans(0, 2, 0);
        x.order(0, true);
        x.ticks(1);
        check.due("0 is the signals", x.device(0, 0, 0), 1);
        x.order(0, false);
        x.pull(1, 0);
        x.ticks(1);
        check.due("1 is the barrier", x.device(0, 1, 0), 1);
        x.reset(1);
        x.wish(0, -1, 1);
        x.ticks(1);
        check.due("2 is fan 0", x.device(0, 2, 0), -1);
        check.due("3 is fan 1", x.device(0, 3, 0), 0);
    }

    private static void devicesAre(Check check, TunnelWatch x, int tube, int count) {
        for (int i = 0; i < ON_DEVICE.length; i++) {
            OnDevice on = ON_DEVICE[i];
            String what = "call " + i + ", tube " + tube + " of " + count + " devices, device ";
            check.legal(what + 0, () -> on.call(x, tube, 0));
            check.legal(what + (count - 1), () -> on.call(x, tube, count - 1));
            for (int d : new int[] {-1, count, Integer.MIN_VALUE, Integer.MAX_VALUE}) {
                check.illegalArgument(what + d, () -> on.call(x, tube, d));
            }
        }
    }

    private static void lag(Check check) {
        TunnelWatch x = Scene.fans(0, 1, 1);
        for (int device = 0; device < 3; device++) {
            int d = device;
            for (int ticks = 0; ticks <= 5; ticks++) {
                int lag = ticks;
                check.legal("lag " + lag, () -> x.lag(1, d, lag));
                check.due("it is " + lag, x.lag(1, d, lag), lag);
            }
            for (int lag : new int[] {-1, 6, Integer.MIN_VALUE, Integer.MAX_VALUE}) {
                check.illegalArgument("lag " + lag, () -> x.lag(1, d, lag));
            }
            check.due("it is 5 still", x.lag(1, d, 5), 5);
        }
    }

    private static void failed(Check check) {
        TunnelWatch x = Scene.fans(0, 1, 0);
        x.lag(0, 0, 3);
        x.lag(0, 2, 3);
        x.order(0, true);
        x.wish(0, 1, 1);
        x.ticks(3);
        x.fail(0, 0);
        x.fail(0, 2);
        x.ticks(6);
        check.due("signals that failed a tick too soon", x.device(0, 0, 1), 0);
        check.due("a fan that failed a tick too soon", x.device(0, 2, 1), 0);
        check.due("commands are sent to them", x.device(0, 0, 0) + x.device(0, 2, 0), 2);
        x.mend(0, 0);
        x.mend(0, 2);
        x.fail(0, 0);
        x.fail(0, 2);
        x.order(0, false);
        x.wish(0, 1, 0);
        x.ticks(9);
        check.due("signals that stay at STOP", x.device(0, 0, 1), 1);
        check.due("a fan that goes on", x.device(0, 2, 1), 1);
        TunnelWatch closed = new TunnelWatch(2, 0, 100);
        closed.fail(0, 1);
        closed.pull(0, 0);
        closed.ticks(100);
        check.due("a barrier's command", closed.device(0, 1, 0), 1);
        check.due("a barrier that stays open", closed.device(0, 1, 1), 0);
        check.due("the other tube's", closed.device(1, 1, 1), 1);
    }

    private static void sent(Check check) {
        TunnelWatch x = Scene.fans(0, 1, 0);
        x.ticks(3);
        check.due("0 is not sent at first", x.device(0, 0, 2) + x.device(0, 1, 2) + x.device(0, 2, 2), 0);
        x.order(0, true);
        x.wish(0, 1, 1);
        x.ticks(1);
        check.due("STOP", x.device(0, 0, 2), 4);
        check.due("the fan's start", x.device(0, 2, 2), 4);
        x.sense(0, 0, 50);
        x.wish(0, 7, 12);
        x.ticks(2);
        x.order(0, false);
        x.ticks(2);
        check.due("STOP for another cause is no change", x.device(0, 0, 2), 4);
        check.due("blowing on is no change", x.device(0, 2, 2), 4);
        x.sense(0, 0, 49);
        x.wish(0, 1, 0);
        x.ticks(1);
        check.due("OPEN", x.device(0, 0, 2), 9);
        check.due("the fan's stop", x.device(0, 2, 2), 9);
        x.ticks(5);
        check.due("OPEN still", x.device(0, 0, 2), 9);
        check.due("standing still", x.device(0, 2, 2), 9);
    }

    private static void statesAtFirst(Check check) {
        TunnelWatch x = Scene.fans(300, 12, 12);
        for (int tube = 0; tube < 2; tube++) {
            for (int d = 0; d < 14; d++) {
                check.due("command of " + d, x.device(tube, d, 0), 0);
                check.due("actual state of " + d, x.device(tube, d, 1), 0);
            }
        }
    }

    private static void none(Check check) {
        TunnelWatch x = new TunnelWatch(2, 0, 100);
        check.due("NONE", TunnelWatch.NONE, -1);
        check.due("no section", x.tube(0, 1), -1);
        check.due("signals have not run", x.device(0, 0, 4), -1);
    }

    /** The calls stand behind this heading of the program, and ahead of the next one. */
    private static void ahead(Check check, String heading, String... calls) {
        String[] parts = source().split("// ---- ");
        for (String part : parts) {
            if (part.startsWith(heading + "\n")) {
                for (String call : calls) {
                    check.due(call, part.matches("(?s).*\\bpublic \\w+ " + call + "\\(.*"), true);
                }
            }
        }
    }

    private static String source() {
        try {
            return Files.readString(Path.of("src/main/java/TunnelWatch.java"));
        } catch (IOException e) {
            throw new UncheckedIOException(e);
        }
    }
}
