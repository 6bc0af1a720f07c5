import java.util.ArrayList;
import java.util.Arrays;
import java.util.List;
import java.util.stream.Collectors;

/** The calls of the face with the bounds of their arguments, for a tunnel of 3 sections and 2 fans a tube. */
final class Refusals {
    interface Run {
        void run(TunnelWatch x, int[] arguments);
    }

    /** Arguments without bounds (directions, booleans as 0 or 1) have null for them. */
    record Form(String name, Run run, int[]... bounds) {
        int[] leastArguments() {
            return Arrays.stream(bounds).mapToInt(b -> b == null ? 0 : b[0]).toArray();
        }
    }

    /** A call with its arguments. */
    record Call(Form form, int[] arguments) {
        void on(TunnelWatch x) {
            form.run.run(x, arguments);
        }

        @Override
        public String toString() {
            return form.name + Arrays.stream(arguments).mapToObj(Integer::toString)
                    .collect(Collectors.joining(", ", "(", ")"));
        }
    }

    private static final int[] TUBE = {0, 1};
    private static final int[] SECTION = {0, 2};
    private static final int[] DEVICE = {0, 3};
    private static final int[] FANS = {0, 12};
    private static final int[] FREE = null;

    static final List<Form> FORMS = List.of(
            new Form("fan", (x, a) -> x.fan(a[0], a[1]), TUBE, new int[] {1, 1000}),
            new Form("lag", (x, a) -> x.lag(a[0], a[1], a[2]), TUBE, DEVICE, new int[] {0, 5}),
            new Form("plan", (x, a) -> x.plan(a[0], a[1], a[2], a[3], a[4], a[5]),
                    TUBE, SECTION, new int[] {0, 100}, FREE, FANS, FANS),
            new Form("turn", (x, a) -> x.turn(a[0], a[1], a[2]), TUBE, SECTION, FREE),
            new Form("sense", (x, a) -> x.sense(a[0], a[1], a[2]), TUBE, SECTION, new int[] {0, 100}),
            new Form("deafen", (x, a) -> x.deafen(a[0], a[1], a[2] != 0), TUBE, SECTION, FREE),
            new Form("pull", (x, a) -> x.pull(a[0], a[1]), TUBE, SECTION),
            new Form("confirm", (x, a) -> x.confirm(a[0]), TUBE),
            new Form("reset", (x, a) -> x.reset(a[0]), TUBE),
            new Form("wish", (x, a) -> x.wish(a[0], a[1], a[2]), TUBE, FREE, FANS),
            new Form("order", (x, a) -> x.order(a[0], a[1] != 0), TUBE, FREE),
            new Form("limit", (x, a) -> x.limit(a[0]), new int[] {0, 100000}),
            new Form("fail", (x, a) -> x.fail(a[0], a[1]), TUBE, DEVICE),
            new Form("mend", (x, a) -> x.mend(a[0], a[1]), TUBE, DEVICE),
            new Form("ticks", (x, a) -> x.ticks(a[0]), new int[] {1, 200}),
            new Form("tube", (x, a) -> x.tube(a[0], a[1]), TUBE, new int[] {0, 4}),
            new Form("device", (x, a) -> x.device(a[0], a[1], a[2]), TUBE, DEVICE, new int[] {0, 5}));

    private Refusals() { }

    static TunnelWatch tunnel() {
        TunnelWatch x = new TunnelWatch(3, 7, 100);
        for (int i = 0; i < 4; i++) {
            x.fan(i % 2, 1 + i);
        }
        return x;
    }

    static Form form(String name) {
        return FORMS.stream().filter(f -> f.name.equals(name)).findFirst().orElseThrow();
    }

    /** The form's calls with one argument out of its bounds. */
    static List<Call> illegal(Form form) {
        return changed(form, true);
    }

    /** The form's calls with one argument at an edge of its bounds, or anything without bounds. */
    static List<Call> legal(Form form) {
        return changed(form, false);
    }

    private static List<Call> changed(Form form, boolean isIllegal) {
        List<Call> calls = new ArrayList<>();
        for (int i = 0; i < form.bounds.length; i++) {
            for (int value : values(form.bounds[i], isIllegal)) {
                int[] arguments = form.leastArguments();
                arguments[i] = value;
                calls.add(new Call(form, arguments));
            }
        }
        return calls;
    }

    private static int[] values(int[] bounds, boolean isIllegal) {
        if (bounds == FREE) {
            return isIllegal ? new int[] {} : new int[] {Integer.MIN_VALUE, -1, 0, 1, Integer.MAX_VALUE};
        }
        return isIllegal ? new int[] {bounds[0] - 1, bounds[1] + 1, Integer.MIN_VALUE, Integer.MAX_VALUE}
                : new int[] {bounds[0], bounds[1]};
    }

    /** All that is out of bounds is refused, ahead of the first tick and behind it; the edges are not. */
    static void refuses(Check check, String name) {
        Form form = form(name);
        TunnelWatch early = tunnel();
        TunnelWatch late = tunnel();
        late.ticks(1);
        for (Call call : illegal(form)) {
            check.illegalArgument(call.toString(), () -> call.on(early));
            check.illegalArgument(call + " behind a tick", () -> call.on(late));
        }
        for (Call call : legal(form)) {
            check.legal(call.toString(), () -> call.on(tunnel()));
        }
    }
}
