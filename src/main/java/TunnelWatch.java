/**
 * Watches the two tubes of a tunnel: judges fires, and turns the plan that counts into commands for
 * signals, barriers and fans, step by step, so that traffic is stopped before air is turned, starts
 * are few enough, and the feed is never asked for too much.
 */
public final class TunnelWatch {
    public static final int NONE = -1;

    private static final int MIN_SECTIONS = 2;
    private static final int MAX_SECTIONS = 24;
    private static final int MAX_FANS = 12;
    private static final int MAX_KW = 1000;
    private static final int MAX_LIMIT = 100000;
    private static final int MAX_REST = 300;
    private static final int MAX_LAG = 5;
    private static final int MAX_RANK = 100;
    private static final int MAX_VALUE = 100;
    private static final int MAX_TICKS = 200;
    private static final int MAX_TIME = 20000;

    private static final int SIGNALS = 0;
    private static final int BARRIER = 1;
    private static final int FIRST_FAN = 2;

    private static final int OPEN = 0;
    private static final int STOP = 1;
    private static final int CLOSED = 1;
    private static final int STANDING = 0;

    private static final int NO_FIRE = 0;
    private static final int SUSPECTED = 1;
    private static final int CONFIRMED = 2;

    private static final int ON_VALUE = 50;
    private static final int PAIR_DISTANCE = 3;
    private static final int HALT_TICKS = 60;
    private static final int OUT_TICKS = 10;
    private static final int START_TICKS = 10;
    private static final int START_FACTOR = 3;
    private static final int MAX_STARTS = 3;

    private final int sectionCount;
    private final int rest;
    private final Tube first;
    private final Tube second;
    /** Starts of the last START_TICKS ticks, each at its tick modulo START_TICKS. */
    private final int[] startCounts;
    private int feedLimit;
    private int time;
    private boolean unrestedStart;
    private int brokenTicks;

    public TunnelWatch(int sections, int rest, int limit) {
        this.sectionCount = clamp(sections, MIN_SECTIONS, MAX_SECTIONS);
        this.rest = clamp(rest, 0, MAX_REST);
        this.feedLimit = clamp(limit, 0, MAX_LIMIT);
        this.first = new Tube(sectionCount);
        this.second = new Tube(sectionCount);
        this.startCounts = new int[START_TICKS];
    }

    // ---- what there is

    public int fan(int tube, int kw) throws IllegalArgumentException, IllegalStateException {
        needTube(tube);
        need(isWithin(kw, 1, MAX_KW));
        Tube place = tubeAt(tube);
        needState(place.fanCount < MAX_FANS);
        needState(time == 0);
        return place.addFan(kw);
    }

    public int lag(int tube, int device, int ticks) throws IllegalArgumentException {
        needDevice(tube, device);
        need(isWithin(ticks, 0, MAX_LAG));
        Device changed = tubeAt(tube).deviceAt(device);
        int before = changed.lagTicks;
        changed.lagTicks = ticks;
        return before;
    }

    public void plan(int tube, int section, int rank, int direction, int fans, int other)
            throws IllegalArgumentException, IllegalStateException {
        needSection(tube, section);
        need(isWithin(rank, 0, MAX_RANK));
        need(isWithin(fans, 0, MAX_FANS));
        need(isWithin(other, 0, MAX_FANS));
        needState(time == 0);
        Section planned = tubeAt(tube).sections[section];
        planned.rank = rank;
        planned.ownDirection = directionOf(direction);
        planned.ownFans = fans;
        planned.otherFans = other;
    }

    public void turn(int tube, int section, int direction)
            throws IllegalArgumentException, IllegalStateException {
        needSection(tube, section);
        needState(time == 0);
        tubeAt(tube).sections[section].otherDirection = directionOf(direction);
    }

    // ---- what happens

    public int sense(int tube, int section, int value) throws IllegalArgumentException {
        needSection(tube, section);
        need(isWithin(value, 0, MAX_VALUE));
        Section sensed = tubeAt(tube).sections[section];
        int before = sensed.value;
        sensed.value = value;
        return before;
    }

    public boolean deafen(int tube, int section, boolean deaf) throws IllegalArgumentException {
        needSection(tube, section);
        Section changed = tubeAt(tube).sections[section];
        boolean before = changed.deaf;
        changed.deaf = deaf;
        return before;
    }

    public boolean pull(int tube, int section) throws IllegalArgumentException {
        needSection(tube, section);
        Section place = tubeAt(tube).sections[section];
        boolean isNew = !place.pulled;
        place.pulled = true;
        return isNew;
    }

    public boolean confirm(int tube) throws IllegalArgumentException {
        needTube(tube);
        return tubeAt(tube).pullWhereSuspected();
    }

    public boolean reset(int tube) throws IllegalArgumentException {
        needTube(tube);
        return tubeAt(tube).endFire();
    }

    public void wish(int tube, int direction, int fans) throws IllegalArgumentException {
        needTube(tube);
        need(isWithin(fans, 0, MAX_FANS));
        Tube place = tubeAt(tube);
        place.wishedDirection = directionOf(direction);
        place.wishedFans = fans;
    }

    public boolean order(int tube, boolean stop) throws IllegalArgumentException {
        needTube(tube);
        Tube place = tubeAt(tube);
        boolean before = place.stopOrdered;
        place.stopOrdered = stop;
        return before;
    }

    public int limit(int kw) throws IllegalArgumentException {
        need(isWithin(kw, 0, MAX_LIMIT));
        int before = feedLimit;
        feedLimit = kw;
        return before;
    }

    public boolean fail(int tube, int device) throws IllegalArgumentException {
        needDevice(tube, device);
        Device failing = tubeAt(tube).deviceAt(device);
        boolean isNew = !failing.failed;
        failing.failed = true;
        return isNew;
    }

    public boolean mend(int tube, int device) throws IllegalArgumentException {
        needDevice(tube, device);
        return tubeAt(tube).deviceAt(device).repair();
    }

    public int ticks(int n) throws IllegalArgumentException, IllegalStateException {
        need(isWithin(n, 1, MAX_TICKS));
        needState(time + n <= MAX_TIME);
        for (int i = 0; i < n; i++) {
            tick();
        }
        return time;
    }

    // ---- what is told

    public int tube(int tube, int what) throws IllegalArgumentException {
        needTube(tube);
        need(isWithin(what, 0, 4));
        Tube asked = tubeAt(tube);
        switch (what) {
            case 0:
                return asked.status;
            case 1:
                return asked.fireSection;
            case 2:
                return asked.wantedDirection;
            case 3:
                return asked.wantedFans;
            default:
                return asked.countBlowing(asked.wantedDirection);
        }
    }

    public int device(int tube, int device, int what) throws IllegalArgumentException {
        needDevice(tube, device);
        need(isWithin(what, 0, 5));
        if (what >= 4) {
            return device < FIRST_FAN ? NONE : tellFan(tubeAt(tube).fans[device - FIRST_FAN], what);
        }
        Device asked = tubeAt(tube).deviceAt(device);
        switch (what) {
            case 0:
                return asked.command;
            case 1:
                return asked.actual;
            case 2:
                return asked.sentTick;
            default:
                return (asked.failed ? 1 : 0) + (asked.out ? 2 : 0);
        }
    }

    public int load() {
        return first.drawnKw(time) + second.drawnKw(time);
    }

    public int starts() {
        int sum = 0;
        for (int count : startCounts) {
            sum += count;
        }
        return sum;
    }

    public int broken() {
        return brokenTicks;
    }

    // ---- a tick

    private void tick() {
        time++;
        startCounts[time % START_TICKS] = 0;
        unrestedStart = false;
        first.settleDevices(time);
        second.settleDevices(time);
        first.judgeFire();
        second.judgeFire();
        int fireTube = tubeThatCounts();
        boolean isFire = fireTube != NONE;
        Tube lead = fireTube == 1 ? second : first;
        Tube follower = fireTube == 1 ? first : second;
        wantFans(isFire, lead, follower);
        first.commandTraffic(isFire, time);
        second.commandTraffic(isFire, time);
        first.stopFans(isFire, time);
        second.stopFans(isFire, time);
        shedLoad(lead, follower);
        if (startFans(lead)) {
            startFans(follower);
        }
        first.countRun();
        second.countRun();
        if (isBroken()) {
            brokenTicks++;
        }
    }

    private int tubeThatCounts() {
        boolean firstBurns = first.status == CONFIRMED;
        boolean secondBurns = second.status == CONFIRMED;
        if (firstBurns && secondBurns) {
            return second.fireRank() > first.fireRank() ? 1 : 0;
        }
        if (firstBurns) {
            return 0;
        }
        return secondBurns ? 1 : NONE;
    }

    private static void wantFans(boolean isFire, Tube lead, Tube follower) {
        int place = lead.fireSection;
        if (!isFire || place == NONE) {
            lead.want(lead.wishedDirection, lead.wishedFans);
            follower.want(follower.wishedDirection, follower.wishedFans);
            return;
        }
        Section planned = lead.sections[place];
        lead.want(planned.ownDirection, planned.ownFans);
        follower.want(planned.otherDirection, planned.otherFans);
    }

    private void shedLoad(Tube lead, Tube follower) {
        for (int i = 0; i < 2 * MAX_FANS && load() > feedLimit; i++) {
            if (!follower.stopLongestRun(time)) {
                lead.stopLongestRun(time);
            }
        }
    }

    /** False when a start was refused, since then no other fan may start in this tick. */
    private boolean startFans(Tube place) {
        int direction = place.wantedDirection;
        if (place.countBlowing(-direction) > 0) {
            return true;
        }
        int missing = place.wantedFans - place.countBlowing(direction);
        for (int i = 0; i < missing; i++) {
            int next = place.leastRunReady(rest, time);
            if (next == NONE) {
                return true;
            }
            if (!mayStart(place.fans[next])) {
                return false;
            }
            startFan(place.fans[next], direction);
        }
        return true;
    }

    private boolean mayStart(Fan next) {
        return starts() < MAX_STARTS && load() + START_FACTOR * next.kw <= feedLimit;
    }

    private void startFan(Fan started, int direction) {
        if (!started.hasRested(direction, rest, time)) {
            unrestedStart = true;
        }
        started.blow(direction, time);
        startCounts[time % START_TICKS]++;
    }

    /** Looks at what the tick left behind, not at how it came to it, so that a slip would be counted. */
    private boolean isBroken() {
        return load() > feedLimit || starts() > MAX_STARTS || unrestedStart
                || first.isUnsafe(time) || second.isUnsafe(time);
    }

    // ---- small helpers

    private int tellFan(Fan asked, int what) {
        return what == 4 ? asked.runTicks : asked.restLeft(rest, time);
    }

    private Tube tubeAt(int number) {
        return number == 0 ? first : second;
    }

    private static int clamp(int number, int least, int greatest) {
        return Math.max(least, Math.min(greatest, number));
    }

    private static boolean isWithin(int number, int least, int greatest) {
        return number >= least && number <= greatest;
    }

    private static int directionOf(int number) {
        return number < 0 ? -1 : 1;
    }

    private static void need(boolean isLegal) {
        if (!isLegal) {
            throw new IllegalArgumentException();
        }
    }

    private static void needState(boolean isLegal) {
        if (!isLegal) {
            throw new IllegalStateException();
        }
    }

    private static void needTube(int number) {
        need(isWithin(number, 0, 1));
    }

    private void needSection(int number, int section) {
        needTube(number);
        need(isWithin(section, 0, sectionCount - 1));
    }

    private void needDevice(int number, int device) {
        needTube(number);
        need(isWithin(device, 0, FIRST_FAN + tubeAt(number).fanCount - 1));
    }

    /** A section with its detector, its post and its plan. */
    private static final class Section {
        int value;
        boolean deaf;
        boolean pulled;
        int rank;
        int ownDirection = 1;
        int ownFans;
        int otherDirection = 1;
        int otherFans;

        boolean isOn() {
            return value >= ON_VALUE && !deaf;
        }
    }

    /** What signals, barriers and fans have in common. */
    private static class Device {
        int command;
        int actual;
        int sentTick;
        int lagTicks = 1;
        boolean failed;
        boolean out;

        final void send(int state, int now) {
            if (command != state) {
                command = state;
                sentTick = now;
            }
        }

        final void act(int now) {
            if (!failed && now - sentTick >= lagTicks) {
                actual = command;
            }
        }

        final boolean repair() {
            boolean wasBad = failed || out;
            failed = false;
            out = false;
            actual = command;
            return wasBad;
        }
    }

    private static final class Fan extends Device {
        int kw;
        int runTicks;
        /** STANDING as long as it never blew. */
        int lastDirection;

        void blow(int direction, int now) {
            send(direction, now);
            lastDirection = direction;
        }

        void stand(int now) {
            send(STANDING, now);
        }

        void judgeOut(int now) {
            if (actual != command && now - sentTick >= OUT_TICKS) {
                out = true;
                stand(now);
            }
        }

        /** A blowing fan's command was sent by its start, so that tick tells how fresh the start is. */
        int drawnKw(int now) {
            if (command == STANDING) {
                return 0;
            }
            return now - sentTick < START_TICKS ? START_FACTOR * kw : kw;
        }

        /** Ticks until it may blow against its last direction. */
        int restLeft(int rest, int now) {
            if (lastDirection == STANDING) {
                return 0;
            }
            if (command != STANDING) {
                return rest;
            }
            int left = rest - (now - sentTick);
            return left > 0 ? left : 0;
        }

        boolean hasRested(int direction, int rest, int now) {
            return lastDirection == direction || restLeft(rest, now) == 0;
        }
    }

    private static final class Tube {
        final Section[] sections;
        final Device signals = new Device();
        final Device barrier = new Device();
        /** All are made at once, so that none is ever null; only the first fanCount are there. */
        final Fan[] fans = new Fan[MAX_FANS];
        int fanCount;
        boolean stopOrdered;
        int wishedDirection = 1;
        int wishedFans;
        int wantedDirection = 1;
        int wantedFans;
        int status = NO_FIRE;
        int fireSection = NONE;

        Tube(int sectionCount) {
            sections = new Section[sectionCount];
            for (int s = 0; s < sectionCount; s++) {
                sections[s] = new Section();
            }
            for (int f = 0; f < MAX_FANS; f++) {
                fans[f] = new Fan();
            }
        }

        int addFan(int kw) {
            int number = fanCount;
            if (number < fans.length) {
                fans[number].kw = kw;
                fanCount++;
            }
            return number;
        }

        Device deviceAt(int number) {
            if (number == SIGNALS) {
                return signals;
            }
            return number == BARRIER ? barrier : fans[number - FIRST_FAN];
        }

        // ---- fires

        void judgeFire() {
            int best = bestCandidate();
            if (best == NONE) {
                judgeSuspicion();
            } else if (status != CONFIRMED || sections[best].rank > fireRank()) {
                status = CONFIRMED;
                fireSection = best;
            }
        }

        private void judgeSuspicion() {
            if (status != CONFIRMED) {
                fireSection = leastOn();
                status = fireSection == NONE ? NO_FIRE : SUSPECTED;
            }
        }

        private int bestCandidate() {
            int pair = leastOfPair();
            int best = NONE;
            for (int s = 0; s < sections.length; s++) {
                boolean isCandidate = sections[s].pulled || s == pair;
                if (isCandidate && (best == NONE || sections[s].rank > sections[best].rank)) {
                    best = s;
                }
            }
            return best;
        }

        /** Looking upwards is enough: of two that are ON the lesser one is found first. */
        private int leastOfPair() {
            for (int s = 0; s < sections.length; s++) {
                if (sections[s].isOn() && isOnCloseAbove(s)) {
                    return s;
                }
            }
            return NONE;
        }

        private boolean isOnCloseAbove(int section) {
            int last = Math.min(section + PAIR_DISTANCE, sections.length - 1);
            for (int s = section + 1; s <= last; s++) {
                if (sections[s].isOn()) {
                    return true;
                }
            }
            return false;
        }

        private int leastOn() {
            for (int s = 0; s < sections.length; s++) {
                if (sections[s].isOn()) {
                    return s;
                }
            }
            return NONE;
        }

        int fireRank() {
            return fireSection == NONE ? NONE : sections[fireSection].rank;
        }

        boolean pullWhereSuspected() {
            if (status != SUSPECTED || fireSection == NONE) {
                return false;
            }
            sections[fireSection].pulled = true;
            return true;
        }

        boolean endFire() {
            if (leastOn() != NONE) {
                return false;
            }
            for (int s = 0; s < sections.length; s++) {
                sections[s].pulled = false;
            }
            status = NO_FIRE;
            fireSection = NONE;
            return true;
        }

        void want(int direction, int number) {
            wantedDirection = direction;
            wantedFans = number;
        }

        // ---- traffic

        void settleDevices(int now) {
            signals.act(now);
            barrier.act(now);
            for (int f = 0; f < fanCount; f++) {
                fans[f].act(now);
                fans[f].judgeOut(now);
            }
        }

        void commandTraffic(boolean isFire, int now) {
            boolean isBarred = barrier.command == CLOSED || barrier.actual == CLOSED;
            boolean mustStop = isFire || status == SUSPECTED || stopOrdered || isBarred;
            signals.send(mustStop ? STOP : OPEN, now);
            boolean mustClose = isFire && (barrier.command == CLOSED || isHalted(now));
            barrier.send(mustClose ? CLOSED : OPEN, now);
        }

        private boolean isHalted(int now) {
            return signals.command == STOP
                    && (signals.actual == STOP || now - signals.sentTick >= HALT_TICKS);
        }

        boolean isUnsafe(int now) {
            boolean isClosed = barrier.command == CLOSED;
            boolean closedTooSoon = isClosed && barrier.sentTick == now && !isHalted(now);
            boolean closedBehindOpen = isClosed && signals.command == OPEN;
            boolean blowsBothWays = countBlowing(-1) > 0 && countBlowing(1) > 0;
            return closedTooSoon || closedBehindOpen || blowsBothWays;
        }

        // ---- fans

        int countBlowing(int direction) {
            int count = 0;
            for (int f = 0; f < fanCount; f++) {
                if (fans[f].command == direction) {
                    count++;
                }
            }
            return count;
        }

        int drawnKw(int now) {
            int sum = 0;
            for (int f = 0; f < fanCount; f++) {
                sum += fans[f].drawnKw(now);
            }
            return sum;
        }

        void stopFans(boolean isFire, int now) {
            if (!isFire || isHalted(now)) {
                stopBlowingAgainst(now);
            }
            int tooMany = countBlowing(wantedDirection) - wantedFans;
            for (int i = 0; i < tooMany; i++) {
                stopAt(longestRun(false), now);
            }
        }

        private void stopBlowingAgainst(int now) {
            for (int f = 0; f < fanCount; f++) {
                if (fans[f].command == -wantedDirection) {
                    fans[f].stand(now);
                }
            }
        }

        /** False when no fan blows. */
        boolean stopLongestRun(int now) {
            int longest = longestRun(true);
            stopAt(longest, now);
            return longest != NONE;
        }

        private void stopAt(int number, int now) {
            if (number != NONE) {
                fans[number].stand(now);
            }
        }

        private int longestRun(boolean inAnyDirection) {
            int best = NONE;
            for (int f = 0; f < fanCount; f++) {
                int command = fans[f].command;
                boolean counts = inAnyDirection ? command != STANDING : command == wantedDirection;
                if (counts && (best == NONE || fans[f].runTicks > fans[best].runTicks)) {
                    best = f;
                }
            }
            return best;
        }

        int leastRunReady(int rest, int now) {
            int best = NONE;
            for (int f = 0; f < fanCount; f++) {
                if (isReady(fans[f], rest, now)
                        && (best == NONE || fans[f].runTicks < fans[best].runTicks)) {
                    best = f;
                }
            }
            return best;
        }

        private boolean isReady(Fan fan, int rest, int now) {
            return fan.command == STANDING && !fan.out && fan.hasRested(wantedDirection, rest, now);
        }

        void countRun() {
            for (int f = 0; f < fanCount; f++) {
                if (fans[f].command != STANDING) {
                    fans[f].runTicks++;
                }
            }
        }
    }
}
