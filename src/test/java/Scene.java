/** Tunnels made ready, and what they answer in one line. */
final class Scene {
    static final int[] NO_TUBES = {-1, 2, Integer.MIN_VALUE, Integer.MAX_VALUE};
    static final int STOP = 1;
    static final int CLOSED = 1;

    private Scene() { }

    static int[] kw(int... all) {
        return all;
    }

    static TunnelWatch tunnel(int rest, int limit, int[] first, int[] second) {
        TunnelWatch x = new TunnelWatch(10, rest, limit);
        for (int kw : first) {
            x.fan(0, kw);
        }
        for (int kw : second) {
            x.fan(1, kw);
        }
        return x;
    }

    /** As many fans of 1 kW as told in each tube, and a feed that bears them all. */
    static TunnelWatch fans(int rest, int first, int second) {
        TunnelWatch x = new TunnelWatch(10, rest, 100000);
        for (int f = 0; f < first; f++) {
            x.fan(0, 1);
        }
        for (int f = 0; f < second; f++) {
            x.fan(1, 1);
        }
        return x;
    }

    static int signals(TunnelWatch x, int tube) {
        return x.device(tube, 0, 0);
    }

    static int barrier(TunnelWatch x, int tube) {
        return x.device(tube, 1, 0);
    }

    /** The commands of a tube's fans. */
    static String air(TunnelWatch x, int tube) {
        StringBuilder text = new StringBuilder();
        int count = devices(x, tube);
        for (int d = 2; d < count; d++) {
            text.append(d == 2 ? "" : " ").append(x.device(tube, d, 0));
        }
        return text.toString();
    }

    static int devices(TunnelWatch x, int tube) {
        int count = 0;
        while (count < 14 && isThere(x, tube, count)) {
            count++;
        }
        return count;
    }

    private static boolean isThere(TunnelWatch x, int tube, int device) {
        try {
            x.device(tube, device, 0);
            return true;
        } catch (IllegalArgumentException e) {
            return false;
        }
    }

    /** All that can be asked without changing anything. */
    static String told(TunnelWatch x) {
        StringBuilder text = new StringBuilder();
        for (int tube = 0; tube < 2; tube++) {
            text.append(tube == 0 ? "tube 0:" : " tube 1:");
            for (int what = 0; what < 5; what++) {
                text.append(' ').append(x.tube(tube, what));
            }
            int count = devices(x, tube);
            for (int d = 0; d < count; d++) {
                text.append(" device ").append(d).append(':');
                for (int what = 0; what < 6; what++) {
                    text.append(' ').append(x.device(tube, d, what));
                }
            }
        }
        return text + " load " + x.load() + " starts " + x.starts() + " broken " + x.broken();
    }
}
