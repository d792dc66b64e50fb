import java.util.ArrayList;
import java.util.List;

/** The document's words once more, as plainly as they go, to compare the program with. */
final class PlainModel {
    private static final long NOT = Long.MIN_VALUE;

    private static final class Unit {
        int number;
        Unit above;
        boolean closed = true;
        boolean jammed;
        int load;
        int fault;
        int kind;
        int pickup = 100;
        int time = 5;
        boolean held;
        int shots;
        int patience = 10;
        int lag = 1;
        List<Integer> samples = new ArrayList<>(List.of(0, 0, 0, 0));
        boolean picked;
        long sum;
        long orderSince = NOT;
        boolean orderOwn;
        boolean failed;
        long waitingUntil = NOT;
        boolean locked;
        int used;
        long reclaim;
        int changes;
        long sentLast = NOT;
        long due = NOT;
        Message known;
        long cameLast;

        boolean fed() {
            return closed && (above == null || above.fed());
        }

        boolean isOrIsBelow(Unit other) {
            return this == other || above != null && above.isOrIsBelow(other);
        }

        long limit() {
            long limit = time;
            for (int i = 0; i < kind; i++) {
                limit *= pickup;
            }
            return limit;
        }

        int effective() {
            long squares = 0;
            for (long sample : samples) {
                squares += sample * sample;
            }
            long e = (long) Math.sqrt(squares / 4.0) + 2;
            while (4 * e * e > squares) {
                e--;
            }
            return (int) e;
        }
    }

    private record Message(Unit from, int number, boolean picked, long comes) { }

    private record Event(int kind, Unit unit, long time, boolean[] stored) { }

    private final List<Unit> units = new ArrayList<>();
    private final List<Message> underWay = new ArrayList<>();
    private final List<Event> events = new ArrayList<>();
    private int now;

    int relay(int above) {
        boolean fits = units.isEmpty() ? above == -1 : get(above) != null;
        if (units.size() == 8 || now != 0 || !fits) {
            return -1;
        }
        Unit unit = new Unit();
        unit.number = units.size();
        unit.above = get(above);
        units.add(unit);
        return unit.number;
    }

    boolean settings(int r, int kind, int pickup, int time) {
        Unit unit = get(r);
        if (unit == null || kind < 0 || kind > 2 || pickup < 1 || pickup > 5000 || time < 1 || time > 1000) {
            return false;
        }
        unit.kind = kind;
        unit.pickup = pickup;
        unit.time = time;
        return true;
    }

    boolean options(int r, boolean held, int shots, int patience) {
        Unit unit = get(r);
        if (unit == null || shots < 0 || shots > 3 || patience < 1 || patience > 50) {
            return false;
        }
        unit.held = held;
        unit.shots = shots;
        unit.patience = patience;
        return true;
    }

    boolean load(int s, int amount) {
        Unit unit = get(s);
        if (unit == null || amount < 0 || amount > 2000) {
            return false;
        }
        unit.load = amount;
        return true;
    }

    boolean fault(int s, int amount) {
        Unit unit = get(s);
        if (unit == null || amount < 0 || amount > 20000) {
            return false;
        }
        unit.fault = amount;
        return true;
    }

    boolean jam(int r, boolean on) {
        Unit unit = get(r);
        if (unit == null) {
            return false;
        }
        unit.jammed = on;
        return true;
    }

    boolean line(int r, int lag) {
        Unit unit = get(r);
        if (unit == null || lag < 0 || lag > 8) {
            return false;
        }
        unit.lag = lag;
        return true;
    }

    boolean operate(int r, boolean closed) {
        Unit unit = get(r);
        if (unit == null) {
            return false;
        }
        unit.closed = closed;
        unit.orderSince = NOT;
        unit.waitingUntil = NOT;
        unit.locked = !closed;
        unit.used = 0;
        return true;
    }

    int run(int ticks) {
        if (ticks < 1 || ticks > 20) {
            return -1;
        }
        for (int i = 0; i < ticks; i++) {
            now++;
            units.forEach(this::messages);
            units.forEach(this::breakers);
            units.forEach(this::measuring);
            units.forEach(this::tripping);
            units.forEach(this::failing);
            events.stream().filter(e -> !e.stored()[0]).limit(2).forEach(e -> e.stored()[0] = true);
        }
        return now;
    }

    int crash() {
        int before = events.size();
        events.removeIf(e -> !e.stored()[0]);
        underWay.clear();
        for (Unit unit : units) {
            unit.samples = new ArrayList<>(List.of(0, 0, 0, 0));
            unit.sum = 0;
            unit.picked = false;
            unit.changes = 0;
            unit.due = NOT;
            unit.known = null;
            unit.orderSince = NOT;
            unit.waitingUntil = NOT;
            unit.used = 0;
            unit.locked = !unit.closed;
        }
        return before - events.size();
    }

    int time() {
        return now;
    }

    int current(int r) {
        return get(r) == null ? -1 : current(get(r));
    }

    int state(int r) {
        Unit unit = get(r);
        if (unit == null) {
            return -1;
        }
        boolean[] bits = {unit.closed, unit.picked, unit.orderSince != NOT, unit.waitingUntil != NOT,
            unit.locked, unit.jammed, blocked(unit)};
        int state = 0;
        for (int i = 0; i < bits.length; i++) {
            state |= bits[i] ? 1 << i : 0;
        }
        return state;
    }

    long sum(int r) {
        return get(r) == null ? -1 : get(r).sum;
    }

    int used(int r) {
        return get(r) == null ? -1 : get(r).used;
    }

    int changes(int r) {
        return get(r) == null ? -1 : get(r).changes;
    }

    int known(int r) {
        Unit unit = get(r);
        if (unit == null || unit.above == null) {
            return -1;
        }
        return unit.known == null ? 0 : 2 * unit.known.number() + (unit.known.picked() ? 1 : 0);
    }

    int effective(int r) {
        return get(r) == null ? -1 : get(r).effective();
    }

    int events() {
        return events.size();
    }

    int event(int i) {
        return i < 0 || i >= events.size() ? -1 : events.get(i).kind() + 8 * events.get(i).unit().number;
    }

    int when(int i) {
        return i < 0 || i >= events.size() ? -1 : (int) events.get(i).time();
    }

    private Unit get(int r) {
        return r < 0 || r >= units.size() ? null : units.get(r);
    }

    private int current(Unit unit) {
        int current = 0;
        for (Unit other : units) {
            if (other.fed() && other.isOrIsBelow(unit)) {
                current += other.load + other.fault;
            }
        }
        return current;
    }

    private boolean blocked(Unit unit) {
        for (Unit other : units) {
            if (unit.held && other.above == unit && other.known != null && other.known.picked()
                    && now - other.cameLast <= 12) {
                return true;
            }
        }
        return false;
    }

    private void record(int kind, Unit unit) {
        if (events.size() < 200) {
            events.add(new Event(kind, unit, now, new boolean[1]));
        }
    }

    private void messages(Unit unit) {
        for (Message message : new ArrayList<>(underWay)) {
            if (message.from() == unit && message.comes() == now) {
                underWay.remove(message);
                if (unit.known == null || message.number() > unit.known.number()) {
                    unit.known = message;
                    unit.cameLast = now;
                } else if (message.number() == unit.known.number()) {
                    unit.cameLast = now;
                }
            }
        }
    }

    private void breakers(Unit unit) {
        if (unit.orderSince != NOT && now - unit.orderSince >= 2 && !unit.jammed) {
            unit.closed = false;
            record(2, unit);
            unit.orderSince = NOT;
            if (unit.orderOwn && unit.used < unit.shots) {
                unit.waitingUntil = now + new int[] {5, 20, 50}[unit.used];
            } else {
                unit.locked = true;
                record(5, unit);
            }
        } else if (unit.waitingUntil != NOT && now >= unit.waitingUntil) {
            unit.closed = true;
            record(3, unit);
            unit.waitingUntil = NOT;
            unit.used++;
            unit.reclaim = now + 30;
        } else if (unit.used > 0 && unit.closed && unit.orderSince == NOT && now >= unit.reclaim) {
            unit.used = 0;
            record(4, unit);
        }
    }

    private void measuring(Unit unit) {
        unit.samples.remove(0);
        unit.samples.add(current(unit));
        long i = unit.effective();
        long p = unit.pickup;
        boolean before = unit.picked;
        unit.picked = i > p;
        if (!unit.picked) {
            unit.sum = 0;
        } else if (unit.kind == 0) {
            unit.sum++;
        } else {
            unit.sum += unit.kind == 1 ? i - p : i * i - p * p;
        }
        if (unit.picked != before) {
            unit.changes++;
            send(unit);
            unit.due = now + 1;
        } else if (unit.due == now) {
            long gap = now - unit.sentLast;
            send(unit);
            unit.due = now + Math.min(8, 2 * gap);
        }
    }

    private void send(Unit unit) {
        unit.sentLast = now;
        if (unit.above != null && unit.lag != 0) {
            underWay.add(new Message(unit, unit.changes, unit.picked, now + unit.lag));
        }
    }

    private void tripping(Unit unit) {
        if (unit.picked && unit.sum >= unit.limit() && unit.closed && unit.orderSince == NOT && !blocked(unit)) {
            order(unit, true);
            record(1, unit);
        }
    }

    private void failing(Unit unit) {
        if (unit.orderSince == NOT || now - unit.orderSince < unit.patience || unit.failed || !unit.picked) {
            return;
        }
        unit.failed = true;
        record(6, unit);
        if (unit.above != null && unit.above.closed && unit.above.orderSince == NOT) {
            order(unit.above, false);
            record(7, unit.above);
        }
    }

    private void order(Unit unit, boolean own) {
        unit.orderSince = now;
        unit.orderOwn = own;
        unit.failed = false;
    }
}
