import java.util.Arrays;

/** A tree of power lines with relays, breakers and a record of events; README.md tells how to use it. */
public final class FeederRelays {
    private static final int MOST_RELAYS = 8;
    private static final int MOST_TICKS = 20;
    private static final int NONE = -1;

    private static final int MOST_KIND = 2;
    private static final int MOST_PICKUP = 5000;
    private static final int MOST_TIME = 1000;
    private static final int MOST_SHOTS = 3;
    private static final int MOST_PATIENCE = 50;
    private static final int MOST_LOAD = 2000;
    private static final int MOST_FAULT = 20000;
    private static final int MOST_LAG = 8;

    private static final int TRIPPED = 1;
    private static final int OPENED = 2;
    private static final int CLOSED = 3;
    private static final int RECLAIMED = 4;
    private static final int LOCKED = 5;
    private static final int FAILED = 6;
    private static final int ORDERED_FROM_BELOW = 7;

    private final Relay[] relays;
    private final int[] flows;
    private final boolean[] fed;
    private final Journal journal;
    private int count;
    private int now;

    public FeederRelays() {
        relays = new Relay[MOST_RELAYS];
        flows = new int[MOST_RELAYS];
        fed = new boolean[MOST_RELAYS];
        journal = new Journal();
    }

    public int relay(int above) {
        if (count >= MOST_RELAYS || now != 0 || !isPlaceFor(above)) {
            return NONE;
        }
        relays[count] = new Relay(above);
        count++;
        return count - 1;
    }

    public boolean settings(int r, int kind, int pickup, int time) {
        if (!isRelay(r) || !isWithin(kind, 0, MOST_KIND)
                || !isWithin(pickup, 1, MOST_PICKUP) || !isWithin(time, 1, MOST_TIME)) {
            return false;
        }
        relays[r].meter.set(kind, pickup, time);
        return true;
    }

    public boolean options(int r, boolean held, int shots, int patience) {
        if (!isRelay(r) || !isWithin(shots, 0, MOST_SHOTS) || !isWithin(patience, 1, MOST_PATIENCE)) {
            return false;
        }
        Relay relay = relays[r];
        relay.held = held;
        relay.shots = shots;
        relay.patience = patience;
        return true;
    }

    public boolean load(int s, int amount) {
        if (!isRelay(s) || !isWithin(amount, 0, MOST_LOAD)) {
            return false;
        }
        relays[s].loadAmount = amount;
        return true;
    }

    public boolean fault(int s, int amount) {
        if (!isRelay(s) || !isWithin(amount, 0, MOST_FAULT)) {
            return false;
        }
        relays[s].faultAmount = amount;
        return true;
    }

    public boolean jam(int r, boolean on) {
        if (!isRelay(r)) {
            return false;
        }
        relays[r].breaker.jammed = on;
        return true;
    }

    public boolean line(int r, int lag) {
        if (!isRelay(r) || !isWithin(lag, 0, MOST_LAG)) {
            return false;
        }
        relays[r].wire.lag = lag;
        return true;
    }

    public boolean operate(int r, boolean closed) {
        if (!isRelay(r)) {
            return false;
        }
        relays[r].breaker.closed = closed;
        relays[r].breaker.forget();
        return true;
    }

    public int run(int ticks) {
        if (!isWithin(ticks, 1, MOST_TICKS)) {
            return NONE;
        }
        for (int i = 0; i < ticks; i++) {
            tick();
        }
        return now;
    }

    public int crash() {
        for (int r = 0; r < count; r++) {
            relays[r].meter.forget();
            relays[r].wire.forget();
            relays[r].breaker.forget();
        }
        return journal.dropUnstored();
    }

    public int time() {
        return now;
    }

    public int current(int r) {
        if (!isRelay(r)) {
            return NONE;
        }
        findFlows();
        return flows[r];
    }

    public int state(int r) {
        if (!isRelay(r)) {
            return NONE;
        }
        int bits = relays[r].breaker.bits();
        if (relays[r].meter.pickedUp) {
            bits += 2;
        }
        if (isBlocked(r)) {
            bits += 64;
        }
        return bits;
    }

    public long sum(int r) {
        return isRelay(r) ? relays[r].meter.total : NONE;
    }

    public int used(int r) {
        return isRelay(r) ? relays[r].breaker.usedShots : NONE;
    }

    public int changes(int r) {
        return isRelay(r) ? relays[r].wire.number : NONE;
    }

    public int known(int r) {
        return isRelay(r) && relays[r].above != NONE ? relays[r].wire.knownMessage : NONE;
    }

    public int effective(int r) {
        return isRelay(r) ? relays[r].meter.effectiveNow : NONE;
    }

    public int events() {
        return journal.recorded;
    }

    public int event(int i) {
        return journal.has(i) ? journal.codes[i] : NONE;
    }

    public int when(int i) {
        return journal.has(i) ? journal.times[i] : NONE;
    }

    private static boolean isWithin(int value, int least, int most) {
        return value >= least && value <= most;
    }

    private boolean isRelay(int r) {
        return r >= 0 && r < count;
    }

    private boolean isPlaceFor(int above) {
        return count == 0 ? above == NONE : isRelay(above);
    }

    private void tick() {
        now++;
        for (int r = 0; r < count; r++) {
            relays[r].wire.deliver(now);
        }
        for (int r = 0; r < count; r++) {
            moveBreaker(r);
        }
        measureAll();
        for (int r = 0; r < count; r++) {
            tripIfDue(r);
        }
        for (int r = 0; r < count; r++) {
            failIfDue(r);
        }
        journal.store();
    }

    private void moveBreaker(int r) {
        Breaker breaker = relays[r].breaker;
        if (breaker.mustOpen(now)) {
            boolean closesAgain = breaker.orderIsOwn && breaker.usedShots < relays[r].shots;
            breaker.open();
            journal.add(OPENED, r, now);
            if (closesAgain) {
                breaker.awaitClosing(now);
            } else {
                breaker.locked = true;
                journal.add(LOCKED, r, now);
            }
        } else if (breaker.mustClose(now)) {
            breaker.closeAgain(now);
            journal.add(CLOSED, r, now);
        } else if (breaker.mustReclaim(now)) {
            breaker.usedShots = 0;
            journal.add(RECLAIMED, r, now);
        }
    }

    private void measureAll() {
        findFlows();
        for (int r = 0; r < count; r++) {
            Meter meter = relays[r].meter;
            boolean wasPickedUp = meter.pickedUp;
            meter.measure(flows[r]);
            relays[r].wire.report(now, meter.pickedUp, meter.pickedUp != wasPickedUp);
        }
    }

    // A relay always has a smaller number than those below it: one pass up
    // the numbers tells what is fed, one pass back down adds what flows.
    private void findFlows() {
        for (int r = 0; r < count; r++) {
            Relay relay = relays[r];
            fed[r] = relay.breaker.closed && (relay.above == NONE || fed[relay.above]);
            flows[r] = fed[r] ? relay.loadAmount + relay.faultAmount : 0;
        }
        for (int r = count - 1; r > 0; r--) {
            flows[relays[r].above] += flows[r];
        }
    }

    private void tripIfDue(int r) {
        Breaker breaker = relays[r].breaker;
        if (relays[r].meter.isOverLimit() && breaker.takesOrder() && !isBlocked(r)) {
            breaker.giveOrder(now, true);
            journal.add(TRIPPED, r, now);
        }
    }

    private void failIfDue(int r) {
        Relay relay = relays[r];
        if (!relay.meter.pickedUp || !relay.breaker.isOverdue(now, relay.patience)) {
            return;
        }
        relay.breaker.failed = true;
        journal.add(FAILED, r, now);
        int above = relay.above;
        if (above != NONE && relays[above].breaker.takesOrder()) {
            relays[above].breaker.giveOrder(now, false);
            journal.add(ORDERED_FROM_BELOW, above, now);
        }
    }

    private boolean isBlocked(int r) {
        if (!relays[r].held) {
            return false;
        }
        for (int below = r + 1; below < count; below++) {
            if (relays[below].above == r && relays[below].wire.holdsBack(now)) {
                return true;
            }
        }
        return false;
    }

    /** What one relay is set to, and its parts. */
    private static final class Relay {
        final int above;
        final Meter meter = new Meter();
        final Breaker breaker = new Breaker();
        final Wire wire;
        boolean held;
        int shots;
        int patience = 10;
        int loadAmount;
        int faultAmount;

        Relay(int above) {
            this.above = above;
            this.wire = new Wire(above != NONE);
        }
    }

    /** The measuring part of a relay: samples, pickup and sum. */
    private static final class Meter {
        private static final int SAMPLES = 4;
        // Eight sections of at most 22000 each flow through one relay: less than twice this.
        private static final int HIGHEST_BIT = 1 << 17;
        private static final int DEFINITE = 0;
        private static final int VERY = 1;

        private final int[] samples = new int[SAMPLES];
        private int oldest;
        private int kind;
        private int pickup = 100;
        private int delay = 5;
        int effectiveNow;
        boolean pickedUp;
        long total;

        void set(int newKind, int newPickup, int newDelay) {
            kind = newKind;
            pickup = newPickup;
            delay = newDelay;
        }

        void measure(int flow) {
            samples[oldest] = flow;
            oldest = (oldest + 1) % SAMPLES;
            effectiveNow = rootOfMeanSquare();
            pickedUp = effectiveNow > pickup;
            total = pickedUp ? total + growth() : 0;
        }

        boolean isOverLimit() {
            return pickedUp && total >= limit();
        }

        void forget() {
            Arrays.fill(samples, 0);
            effectiveNow = 0;
            pickedUp = false;
            total = 0;
        }

        private long growth() {
            if (kind == DEFINITE) {
                return 1;
            }
            if (kind == VERY) {
                return effectiveNow - pickup;
            }
            return (long) effectiveNow * effectiveNow - (long) pickup * pickup;
        }

        private long limit() {
            if (kind == DEFINITE) {
                return delay;
            }
            if (kind == VERY) {
                return (long) delay * pickup;
            }
            return (long) delay * pickup * pickup;
        }

        private int rootOfMeanSquare() {
            long squares = 0;
            for (int i = 0; i < SAMPLES; i++) {
                squares += (long) samples[i] * samples[i];
            }
            long mean = squares / SAMPLES;
            int root = 0;
            for (int bit = HIGHEST_BIT; bit > 0; bit >>= 1) {
                long tried = root + bit;
                if (tried * tried <= mean) {
                    root += bit;
                }
            }
            return root;
        }
    }

    /** The breaker of a relay, with the orders to it and its closing again. */
    private static final class Breaker {
        private static final int OPENING_TICKS = 2;
        private static final int RECLAIM_TICKS = 30;

        boolean closed = true;
        boolean jammed;
        boolean locked;
        boolean failed;
        boolean orderIsOwn;
        int usedShots;
        private boolean hasOrder;
        private int orderedAt;
        private boolean waiting;
        private int closingAt;
        private int reclaimAt;

        boolean takesOrder() {
            return closed && !hasOrder;
        }

        void giveOrder(int now, boolean own) {
            hasOrder = true;
            orderIsOwn = own;
            orderedAt = now;
            failed = false;
        }

        boolean isOverdue(int now, int patience) {
            return hasOrder && !failed && now - orderedAt >= patience;
        }

        boolean mustOpen(int now) {
            return hasOrder && !jammed && now - orderedAt >= OPENING_TICKS;
        }

        void open() {
            closed = false;
            hasOrder = false;
        }

        void awaitClosing(int now) {
            waiting = true;
            closingAt = now + pauseAfter(usedShots);
        }

        boolean mustClose(int now) {
            return waiting && now >= closingAt;
        }

        void closeAgain(int now) {
            closed = true;
            waiting = false;
            usedShots++;
            reclaimAt = now + RECLAIM_TICKS;
        }

        boolean mustReclaim(int now) {
            return usedShots > 0 && closed && !hasOrder && now >= reclaimAt;
        }

        void forget() {
            hasOrder = false;
            waiting = false;
            usedShots = 0;
            locked = !closed;
        }

        int bits() {
            int bits = closed ? 1 : 0;
            bits += hasOrder ? 4 : 0;
            bits += waiting ? 8 : 0;
            bits += locked ? 16 : 0;
            bits += jammed ? 32 : 0;
            return bits;
        }

        private static int pauseAfter(int shots) {
            if (shots == 0) {
                return 5;
            }
            return shots == 1 ? 20 : 50;
        }
    }

    /**
     * The line from a relay to the one above: when messages are sent, those
     * under way, and what has become known. A message is 2 * number, plus 1
     * if picked up; numbers start at 1, so 0 is no message.
     */
    private static final class Wire {
        private static final int CUT = 0;
        private static final int NEVER = 0;
        private static final int LONGEST_GAP = 8;
        private static final int FRESH_TICKS = 12;
        // A message is under way for at most 8 ticks and at most one is sent
        // in a tick: the place for a tick is free again 8 ticks later.
        private static final int PLACES = 8;

        private final boolean leadsUp;
        private final int[] messages = new int[PLACES];
        private final int[] comesAt = new int[PLACES];
        int lag = 1;
        int number;
        int knownMessage;
        private int cameAt;
        private int gap;
        private int dueAt = NEVER;

        Wire(boolean leadsUp) {
            this.leadsUp = leadsUp;
        }

        void deliver(int now) {
            for (int i = 0; i < PLACES; i++) {
                int place = placeOf(now + i);
                if (comesAt[place] == now) {
                    learn(messages[place], now);
                }
            }
        }

        void report(int now, boolean pickedUp, boolean changed) {
            if (changed) {
                number++;
                gap = 1;
            } else if (dueAt != NEVER && now >= dueAt) {
                gap = Math.min(2 * gap, LONGEST_GAP);
            } else {
                return;
            }
            dueAt = now + gap;
            if (leadsUp) {
                send(2 * number + (pickedUp ? 1 : 0), now);
            }
        }

        boolean holdsBack(int now) {
            return (knownMessage & 1) == 1 && now - cameAt <= FRESH_TICKS;
        }

        void forget() {
            Arrays.fill(comesAt, NEVER);
            number = 0;
            knownMessage = 0;
            dueAt = NEVER;
        }

        private void send(int message, int now) {
            int place = placeOf(now);
            messages[place] = message;
            comesAt[place] = lag == CUT ? NEVER : now + lag;
        }

        // The same number always tells the same state: taking such a message
        // anew changes only when it came.
        private void learn(int message, int now) {
            if (message >> 1 >= knownMessage >> 1) {
                knownMessage = message;
                cameAt = now;
            }
        }

        private static int placeOf(int tick) {
            return tick & (PLACES - 1);
        }
    }

    /** The recorded events; the first ones, so many as are stored, outlive a crash. */
    private static final class Journal {
        private static final int MOST_EVENTS = 200;
        private static final int STORED_IN_A_TICK = 2;

        final int[] codes = new int[MOST_EVENTS];
        final int[] times = new int[MOST_EVENTS];
        int recorded;
        private int stored;

        void add(int kind, int relay, int now) {
            if (recorded < MOST_EVENTS) {
                codes[recorded] = kind + 8 * relay;
                times[recorded] = now;
                recorded++;
            }
        }

        boolean has(int i) {
            return i >= 0 && i < recorded;
        }

        void store() {
            stored = Math.min(stored + STORED_IN_A_TICK, recorded);
        }

        int dropUnstored() {
            int dropped = recorded - stored;
            recorded = stored;
            return dropped;
        }
    }
}
