import java.util.ArrayList;
import java.util.List;

/** What the terms say of exceptions. */
final class RefusalSentences {
    private RefusalSentences() { }

    static void test(Sentences doc) {
        doc.test("In all calls illegal argument: a number is out of its bounds, there is no such tube, section, "
                + "device.", RefusalSentences::illegalArgument);
        doc.test("Illegal state: as told.", RefusalSentences::illegalState);
        doc.test("Of several exceptions the one named first is thrown;", RefusalSentences::namedFirst);
        doc.test("a call that throws changes nothing.", RefusalSentences::changesNothing);
    }

    private static void illegalArgument(Check check) {
        for (Refusals.Form form : Refusals.FORMS) {
            Refusals.refuses(check, form.name());
        }
    }

    /** Only what is told before the first tick is refused behind it. */
    private static void illegalState(Check check) {
        for (Refusals.Form form : Refusals.FORMS) {
            boolean isTooLate = List.of("fan", "plan", "turn").contains(form.name());
            for (Refusals.Call call : Refusals.legal(form)) {
                TunnelWatch x = Refusals.tunnel();
                x.ticks(1);
                if (isTooLate) {
                    check.illegalState(call.toString(), () -> call.on(x));
                } else {
                    check.legal(call.toString(), () -> call.on(x));
                }
            }
        }
    }

    private static void namedFirst(Check check) {
        TunnelWatch full = Scene.fans(0, 12, 0);
        check.illegalState("a 13th fan", () -> full.fan(0, 1));
        check.illegalArgument("a 13th fan of no kW", () -> full.fan(0, 0));
        check.illegalArgument("a 13th fan of too many kW", () -> full.fan(0, 1001));
        TunnelWatch late = Refusals.tunnel();
        late.ticks(1);
        for (String name : List.of("fan", "plan", "turn")) {
            Refusals.Form form = Refusals.form(name);
            check.illegalState(name, () -> new Refusals.Call(form, form.leastArguments()).on(late));
            for (Refusals.Call call : Refusals.illegal(form)) {
                check.illegalArgument(call.toString(), () -> call.on(late));
            }
        }
        TunnelWatch old = atTheEnd(20000);
        check.illegalState("ticks(1)", () -> old.ticks(1));
        check.illegalState("ticks(200)", () -> old.ticks(200));
        for (Refusals.Call call : Refusals.illegal(Refusals.form("ticks"))) {
            check.illegalArgument(call.toString(), () -> call.on(old));
        }
    }

    private static TunnelWatch atTheEnd(int time) {
        TunnelWatch x = Refusals.tunnel();
        x.wish(0, 1, 2);
        x.order(1, true);
        int now = 0;
        while (now < time) {
            now = x.ticks(Math.min(200, time - now));
        }
        return x;
    }

    // ---- a call that throws changes nothing

    private static void changesNothing(Check check) {
        String early = lived(Refusals.tunnel());
        String late = lived(busy());
        for (Refusals.Form form : Refusals.FORMS) {
            for (Refusals.Call call : Refusals.illegal(form)) {
                check.dueText(call.toString(), lived(refused(call, Refusals.tunnel())), early);
                check.dueText(call + " behind ticks", lived(refused(call, busy())), late);
            }
        }
        for (Refusals.Call call : tooLate()) {
            check.dueText(call + " behind ticks", lived(refused(call, busy())), late);
        }
        TunnelWatch full = Scene.fans(0, 12, 12);
        Check.thrownBy(() -> full.fan(0, 1000));
        check.due("devices behind a 13th fan", Scene.devices(full, 0), 14);
        tooManyTicks(check);
    }

    /** Calls within their bounds that are refused behind a tick; each would be seen if it were not. */
    private static List<Refusals.Call> tooLate() {
        List<Refusals.Call> calls = new ArrayList<>();
        for (int tube = 0; tube < 2; tube++) {
            calls.add(new Refusals.Call(Refusals.form("fan"), new int[] {tube, 1000}));
            for (int section = 0; section < 3; section++) {
                calls.add(new Refusals.Call(Refusals.form("plan"), new int[] {tube, section, 77, -1, 9, 8}));
                calls.add(new Refusals.Call(Refusals.form("turn"), new int[] {tube, section, -1}));
            }
        }
        return calls;
    }

    private static TunnelWatch refused(Refusals.Call call, TunnelWatch x) {
        Check.thrownBy(() -> call.on(x));
        return x;
    }

    /** A suspicion in tube 0, a fire in tube 1, and some of all that can happen. */
    private static TunnelWatch busy() {
        TunnelWatch x = Refusals.tunnel();
        x.plan(0, 1, 5, 1, 2, 1);
        x.plan(1, 2, 6, 1, 1, 2);
        x.wish(0, 1, 2);
        x.ticks(15);
        x.sense(0, 1, 60);
        x.pull(1, 2);
        x.deafen(1, 0, true);
        x.order(0, true);
        x.fail(1, 3);
        x.ticks(4);
        return x;
    }

    /** What an object tells of all that it holds, as its answers to what happens to it. */
    private static String lived(TunnelWatch x) {
        StringBuilder log = new StringBuilder(Scene.told(x));
        log.append(" limit ").append(x.limit(90));
        for (int tube = 0; tube < 2; tube++) {
            log.append(" order ").append(x.order(tube, false)).append(" confirm ").append(x.confirm(tube));
            for (int d = 0; d < 4; d++) {
                log.append(" lag ").append(x.lag(tube, d, 1)).append(" fail ").append(x.fail(tube, d));
                log.append(" mend ").append(x.mend(tube, d));
            }
            for (int s = 0; s < 3; s++) {
                log.append(" sense ").append(x.sense(tube, s, 0)).append(" deaf ").append(x.deafen(tube, s, false));
                log.append(" pull ").append(x.pull(tube, s));
            }
        }
        log.append(" ticks ").append(x.ticks(1)).append(' ').append(Scene.told(x));
        for (int tube = 0; tube < 2; tube++) {
            for (int s = 0; s < 3; s++) {
                log.append(fireIn(x, tube, s));
            }
        }
        x.reset(0);
        x.reset(1);
        return log.append(" ticks ").append(x.ticks(30)).append(' ').append(Scene.told(x)).toString();
    }

    private static String fireIn(TunnelWatch x, int tube, int section) {
        x.reset(0);
        x.reset(1);
        x.pull(tube, section);
        x.ticks(1);
        return " fire " + x.tube(tube, 1) + " wants " + x.tube(0, 2) + " " + x.tube(0, 3) + " " + x.tube(1, 2) + " "
                + x.tube(1, 3);
    }

    private static void tooManyTicks(Check check) {
        TunnelWatch x = atTheEnd(19990);
        TunnelWatch same = atTheEnd(19990);
        check.illegalState("11 ticks too many by 1", () -> x.ticks(11));
        check.illegalState("200 ticks", () -> x.ticks(200));
        check.dueText("what is told", Scene.told(x), Scene.told(same));
        check.due("ticks that are left", x.ticks(10), 20000);
        same.ticks(10);
        check.dueText("what is told", Scene.told(x), Scene.told(same));
    }
}
