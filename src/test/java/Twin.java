import java.util.ArrayList;
import java.util.Arrays;
import java.util.Comparator;
import java.util.List;
import java.util.Optional;
import java.util.stream.Collectors;
import java.util.stream.IntStream;

/**
 * A second telling of the document, slow and in another form than the program: it keeps all that was
 * sent, with its tick, and derives starts, rest and load from that each time. It shares the program's
 * reading of the document, so it finds slips, not misreadings.
 */
final class Twin {
    /** A command that was sent. */
    record Sent(int tick, int state) { }

    static final class Dev {
        final int number;
        final int kw;
        final List<Sent> history = new ArrayList<>(List.of(new Sent(0, 0)));
        int ran = 0;
        int actual = 0;
        int lag = 1;
        boolean failed = false;
        boolean out = false;

        Dev(int number, int kw) {
            this.number = number;
            this.kw = kw;
        }

        Sent last() {
            return history.get(history.size() - 1);
        }

        int command() {
            return last().state();
        }

        int age(int t) {
            return t - last().tick();
        }

        void send(int t, int state) {
            if (state != command()) {
                history.add(new Sent(t, state));
            }
        }

        long starts(int t) {
            return history.stream().filter(s -> s.state() != 0 && s.tick() > t - 10).count();
        }

        int draw(int t) {
            return command() == 0 ? 0 : age(t) < 10 ? 3 * kw : kw;
        }

        int lastBlown() {
            return history.stream().mapToInt(Sent::state).filter(s -> s != 0).reduce(0, (a, b) -> b);
        }

        /** Of all that was sent: was a fan turned in tick t that had stood for less than rest ticks? */
        boolean turnedTooSoon(int t, int rest) {
            int blown = 0;
            int stood = 0;
            boolean is = false;
            for (Sent s : history) {
                is |= s.tick() == t && s.state() == -blown && blown != 0 && t - stood < rest;
                blown = s.state() != 0 ? s.state() : blown;
                stood = s.state() == 0 ? s.tick() : stood;
            }
            return is;
        }

        boolean rested(int t, int direction, int rest) {
            return lastBlown() == 0 || lastBlown() == direction || age(t) >= rest;
        }
    }

    static final class Side {
        final int[] value;
        final boolean[] deaf;
        final boolean[] pulled;
        /** Rank, own direction, own fans, other direction, other fans. */
        final int[][] plans;
        final Dev signals = new Dev(0, 0);
        final Dev barrier = new Dev(1, 0);
        final List<Dev> fans = new ArrayList<>();
        boolean ordered = false;
        int[] wish = {1, 0};
        int[] wanted = {1, 0};
        int state = 0;
        int where = -1;

        Side(int n) {
            value = new int[n];
            deaf = new boolean[n];
            pulled = new boolean[n];
            plans = new int[n][];
            for (int s = 0; s < n; s++) {
                plans[s] = new int[] {0, 1, 0, 1, 0};
            }
        }

        List<Integer> on() {
            return IntStream.range(0, value.length).filter(s -> value[s] >= 50 && !deaf[s])
                    .boxed().collect(Collectors.toList());
        }

        List<Integer> candidates() {
            List<Integer> all = IntStream.range(0, value.length).filter(s -> pulled[s])
                    .boxed().collect(Collectors.toList());
            List<Integer> on = on();
            on.stream().filter(a -> on.stream().anyMatch(b -> !a.equals(b) && Math.abs(a - b) <= 3))
                    .min(Comparator.naturalOrder()).ifPresent(all::add);
            return all;
        }

        void judge() {
            Optional<Integer> best = candidates().stream()
                    .min(Comparator.<Integer>comparingInt(s -> -plans[s][0]).thenComparing(s -> s));
            if (best.isPresent()) {
                if (state != 2 || plans[best.get()][0] > plans[where][0]) {
                    state = 2;
                    where = best.get();
                }
            } else if (state != 2) {
                where = on().stream().findFirst().orElse(-1);
                state = where < 0 ? 0 : 1;
            }
        }

        boolean halted(int t) {
            return signals.command() == 1 && (signals.actual == 1 || signals.age(t) >= 60);
        }

        List<Dev> blowing(int direction) {
            return fans.stream().filter(f -> f.command() == direction).collect(Collectors.toList());
        }

        Optional<Dev> longest(boolean anyDirection) {
            return fans.stream()
                    .filter(f -> anyDirection ? f.command() != 0 : f.command() == wanted[0])
                    .min(Comparator.<Dev>comparingInt(f -> -f.ran).thenComparingInt(f -> f.number));
        }

        Dev dev(int d) {
            return d == 0 ? signals : d == 1 ? barrier : fans.get(d - 2);
        }
    }

    private final int n;
    private final int rest;
    private int limit;
    private int time = 0;
    private int broken = 0;
    private final Side[] sides;

    Twin(int sections, int rest, int limit) {
        this.n = sections < 2 ? 2 : sections > 24 ? 24 : sections;
        this.rest = rest < 0 ? 0 : rest > 300 ? 300 : rest;
        this.limit = limit < 0 ? 0 : limit > 100000 ? 100000 : limit;
        this.sides = new Side[] {new Side(n), new Side(n)};
    }

    private static void legal(boolean is) {
        if (!is) {
            throw new IllegalArgumentException();
        }
    }

    private static void state(boolean is) {
        if (!is) {
            throw new IllegalStateException();
        }
    }

    private Side side(int tube) {
        legal(tube == 0 || tube == 1);
        return sides[tube];
    }

    private Side sideWith(int tube, int section) {
        legal(section >= 0 && section < n);
        return side(tube);
    }

    private Dev dev(int tube, int device) {
        legal(device >= 0 && device < 2 + side(tube).fans.size());
        return side(tube).dev(device);
    }

    private static boolean fansLegal(int fans) {
        return fans >= 0 && fans <= 12;
    }

    int fan(int tube, int kw) {
        Side s = side(tube);
        legal(kw >= 1 && kw <= 1000);
        state(time == 0 && s.fans.size() < 12);
        s.fans.add(new Dev(s.fans.size(), kw));
        return s.fans.size() - 1;
    }

    int lag(int tube, int device, int ticks) {
        Dev d = dev(tube, device);
        legal(ticks >= 0 && ticks <= 5);
        int was = d.lag;
        d.lag = ticks;
        return was;
    }

    int plan(int tube, int section, int rank, int direction, int fans, int other) {
        Side s = sideWith(tube, section);
        legal(rank >= 0 && rank <= 100 && fansLegal(fans) && fansLegal(other));
        state(time == 0);
        int turned = s.plans[section][3];
        s.plans[section] = new int[] {rank, direction < 0 ? -1 : 1, fans, turned, other};
        return 0;
    }

    int turn(int tube, int section, int direction) {
        Side s = sideWith(tube, section);
        state(time == 0);
        s.plans[section][3] = direction < 0 ? -1 : 1;
        return 0;
    }

    int sense(int tube, int section, int value) {
        Side s = sideWith(tube, section);
        legal(value >= 0 && value <= 100);
        int was = s.value[section];
        s.value[section] = value;
        return was;
    }

    int deafen(int tube, int section, boolean deaf) {
        Side s = sideWith(tube, section);
        boolean was = s.deaf[section];
        s.deaf[section] = deaf;
        return was ? 1 : 0;
    }

    int pull(int tube, int section) {
        Side s = sideWith(tube, section);
        boolean was = s.pulled[section];
        s.pulled[section] = true;
        return was ? 0 : 1;
    }

    int confirm(int tube) {
        Side s = side(tube);
        return s.state == 1 ? 1 + 0 * pull(tube, s.where) : 0;
    }

    int reset(int tube) {
        Side s = side(tube);
        if (!s.on().isEmpty()) {
            return 0;
        }
        Arrays.fill(s.pulled, false);
        s.state = 0;
        s.where = -1;
        return 1;
    }

    int wish(int tube, int direction, int fans) {
        Side s = side(tube);
        legal(fansLegal(fans));
        s.wish = new int[] {direction < 0 ? -1 : 1, fans};
        return 0;
    }

    int order(int tube, boolean stop) {
        boolean was = side(tube).ordered;
        side(tube).ordered = stop;
        return was ? 1 : 0;
    }

    int limit(int kw) {
        legal(kw >= 0 && kw <= 100000);
        int was = limit;
        limit = kw;
        return was;
    }

    int fail(int tube, int device) {
        Dev d = dev(tube, device);
        int was = d.failed ? 0 : 1;
        d.failed = true;
        return was;
    }

    int mend(int tube, int device) {
        Dev d = dev(tube, device);
        int was = d.failed || d.out ? 1 : 0;
        d.failed = false;
        d.out = false;
        d.actual = d.command();
        return was;
    }

    int ticks(int count) {
        legal(count >= 1 && count <= 200);
        state(time + count <= 20000);
        for (int i = 0; i < count; i++) {
            time++;
            tick(time);
            broken += isBroken(time) ? 1 : 0;
        }
        return time;
    }

    int tube(int tube, int what) {
        Side s = side(tube);
        legal(what >= 0 && what <= 4);
        return new int[] {s.state, s.where, s.wanted[0], s.wanted[1], s.blowing(s.wanted[0]).size()}[what];
    }

    int device(int tube, int device, int what) {
        Dev d = dev(tube, device);
        legal(what >= 0 && what <= 5);
        boolean isFan = device >= 2;
        int marks = (d.failed ? 1 : 0) | (d.out ? 2 : 0);
        int ran = isFan ? d.ran : -1;
        int left = !isFan ? -1 : d.lastBlown() == 0 ? 0 : d.command() != 0 ? rest
                : Math.max(0, d.last().tick() + rest - time);
        return new int[] {d.command(), d.actual, d.last().tick(), marks, ran, left}[what];
    }

    int load() {
        return fans().stream().mapToInt(f -> f.draw(time)).sum();
    }

    int starts() {
        return (int) fans().stream().mapToLong(f -> f.starts(time)).sum();
    }

    int broken() {
        return broken;
    }

    private boolean isBroken(int t) {
        boolean is = load() > limit || starts() > 3;
        for (Side s : sides) {
            boolean closed = s.barrier.command() == 1;
            is |= !s.blowing(-1).isEmpty() && !s.blowing(1).isEmpty();
            is |= s.fans.stream().anyMatch(f -> f.turnedTooSoon(t, rest));
            is |= closed && s.barrier.age(t) == 0 && !s.halted(t);
            is |= closed && s.signals.command() == 0;
        }
        return is;
    }

    private List<Dev> fans() {
        List<Dev> all = new ArrayList<>(sides[0].fans);
        all.addAll(sides[1].fans);
        return all;
    }

    private void tick(int t) {
        for (Side s : sides) {
            for (int d = 0; d < 2 + s.fans.size(); d++) {
                Dev dev = s.dev(d);
                if (!dev.failed && dev.age(t) >= dev.lag) {
                    dev.actual = dev.command();
                }
                if (d >= 2 && dev.actual != dev.command() && dev.age(t) >= 10) {
                    dev.out = true;
                    dev.send(t, 0);
                }
            }
            s.judge();
        }
        int fire = -1;
        for (int i = 0; i < 2; i++) {
            if (sides[i].state == 2 && (fire < 0 || rank(sides[i]) > rank(sides[fire]))) {
                fire = i;
            }
        }
        for (int i = 0; i < 2; i++) {
            Side s = sides[i];
            int[] p = fire < 0 ? null : sides[fire].plans[sides[fire].where];
            s.wanted = p == null ? s.wish : i == fire ? new int[] {p[1], p[2]} : new int[] {p[3], p[4]};
        }
        for (Side s : sides) {
            boolean barred = s.barrier.command() == 1 || s.barrier.actual == 1;
            s.signals.send(t, fire >= 0 || s.state == 1 || s.ordered || barred ? 1 : 0);
        }
        for (Side s : sides) {
            boolean stays = s.barrier.command() == 1;
            s.barrier.send(t, fire >= 0 && (stays || s.halted(t)) ? 1 : 0);
        }
        air(t, fire);
    }

    private static int rank(Side s) {
        return s.plans[s.where][0];
    }

    private void air(int t, int fire) {
        for (Side s : sides) {
            if (fire < 0 || s.halted(t)) {
                s.blowing(-s.wanted[0]).forEach(f -> f.send(t, 0));
            }
            while (s.blowing(s.wanted[0]).size() > s.wanted[1]) {
                s.longest(false).get().send(t, 0);
            }
        }
        Side before = sides[fire == 1 ? 1 : 0];
        Side behind = sides[fire == 1 ? 0 : 1];
        while (load() > limit) {
            behind.longest(true).or(() -> before.longest(true)).get().send(t, 0);
        }
        if (start(t, before)) {
            start(t, behind);
        }
        fans().stream().filter(f -> f.command() != 0).forEach(f -> f.ran++);
    }

    private boolean start(int t, Side s) {
        int direction = s.wanted[0];
        while (s.blowing(-direction).isEmpty() && s.blowing(direction).size() < s.wanted[1]) {
            Optional<Dev> next = s.fans.stream()
                    .filter(f -> f.command() == 0 && !f.out && f.rested(t, direction, rest))
                    .min(Comparator.<Dev>comparingInt(f -> f.ran).thenComparingInt(f -> f.number));
            if (next.isEmpty()) {
                return true;
            }
            if (starts() + 1 > 3 || load() + 3 * next.get().kw > limit) {
                return false;
            }
            next.get().send(t, direction);
        }
        return true;
    }
}
