/** Two lines of mercury that carry words; the promises are numbered in the project's document. */
public final class MercuryLine {

    public static final int UNKNOWN = -1;
    public static final int BAD_VALUE = -2;
    public static final int FULL = -3;
    public static final int NOT_POSSIBLE = -4;
    public static final int NONE = -5;

    private static final int OK = 0;
    private static final int HISTORY_ROOM = 4;
    private static final int LOOK_AHEAD = 300;
    private static final int FAULT_BASE = -100;

    // Every state is made here and copied into later: a call makes no object of its own.
    private final State now = new State();
    private final State kept = new State();
    private final State trial = new State();
    private final State[] history = new State[HISTORY_ROOM];
    private final TicketText text = new TicketText();
    private final Trip asked = new Trip();
    private int recorded;
    private boolean hasKept;

    public MercuryLine() {
        for (int i = 0; i < history.length; i++) {
            history[i] = new State();
        }
    }

    // ---- lines

    public int build(int line, int slots) {
        if (!isLine(line)) {
            return UNKNOWN;
        }
        if (!within(slots, 2, Line.MOST_SLOTS)) {
            return BAD_VALUE;
        }
        Line built = now.lineOf(line);
        if (built.riderCount() > 0 || built.hasOffsetFrom(slots)) {
            return NOT_POSSIBLE;
        }
        int before = built.slots;
        if (before == slots) {
            return NONE;
        }
        recordState();
        built.rebuild(slots);
        return before;
    }

    public int addStation(int line, int offset) {
        if (!isLine(line)) {
            return UNKNOWN;
        }
        Line grown = now.lineOf(line);
        if (!within(offset, 0, grown.slots - 1)) {
            return BAD_VALUE;
        }
        if (grown.hasOffset(offset)) {
            return NOT_POSSIBLE;
        }
        if (grown.stationCount >= Line.MOST_STATIONS) {
            return FULL;
        }
        recordState();
        return grown.openStation(offset);
    }

    public int setHeat(int line, int heat) {
        if (!isLine(line)) {
            return UNKNOWN;
        }
        if (!within(heat, -Line.MOST_HEAT, Line.MOST_HEAT)) {
            return BAD_VALUE;
        }
        Line heated = now.lineOf(line);
        int before = heated.heat;
        if (before == heat) {
            return NONE;
        }
        recordState();
        heated.heat = heat;
        return Math.abs(heat - before);
    }

    public int setFare(int fare) {
        if (!within(fare, 1, 99)) {
            return BAD_VALUE;
        }
        int before = now.fare;
        if (before == fare) {
            return NONE;
        }
        recordState();
        now.fare = fare;
        return before;
    }

    public int setPatience(int ticks) {
        if (!within(ticks, 0, 50)) {
            return BAD_VALUE;
        }
        int before = now.patience;
        if (before == ticks) {
            return NONE;
        }
        recordState();
        now.patience = ticks;
        return before;
    }

    public int drain(int line) {
        if (!isLine(line)) {
            return UNKNOWN;
        }
        Line drained = now.lineOf(line);
        int riders = drained.riderCount();
        if (riders == 0) {
            return NONE;
        }
        recordState();
        now.putOutRiders(drained);
        return riders;
    }

    // ---- tickets, calls, orders

    public int book(int value, int kind, int from, int to, int laps) {
        asked.value = value;
        asked.kind = kind;
        asked.from = from;
        asked.to = to;
        asked.laps = laps;
        int refusal = now.refusalOf(asked);
        if (refusal != OK) {
            return refusal;
        }
        if (now.hasTickets(1)) {
            recordState();
            return now.admit(asked);
        }
        return FULL;
    }

    public int cancel(int ticket) {
        Ticket cancelled = now.ticketOf(ticket);
        if (cancelled == null) {
            return UNKNOWN;
        }
        if (cancelled.hasEnded()) {
            return NOT_POSSIBLE;
        }
        recordState();
        return now.withdraw(cancelled);
    }

    public int call(int station, int value) {
        Station called = now.stationOf(station);
        if (called == null) {
            return UNKNOWN;
        }
        if (!within(value, 0, Trip.MOST_VALUE)) {
            return BAD_VALUE;
        }
        if (called.callCount >= Station.MOST_CALLS) {
            return FULL;
        }
        recordState();
        return called.addCall(value);
    }

    public int callBack(int station) {
        Station called = now.stationOf(station);
        if (called == null) {
            return UNKNOWN;
        }
        int value = called.callAt(0);
        if (value == NONE) {
            return NONE;
        }
        recordState();
        called.removeCall(0);
        return value;
    }

    public int order(int ticket, int period) {
        Ticket model = now.ticketOf(ticket);
        if (model == null) {
            return UNKNOWN;
        }
        if (!within(period, 1, 50)) {
            return BAD_VALUE;
        }
        if (now.orderCount >= State.MOST_ORDERS) {
            return FULL;
        }
        recordState();
        return now.giveOrder(model.trip, period);
    }

    public int endOrder(int order) {
        Order ended = now.orderOf(order);
        if (ended == null) {
            return UNKNOWN;
        }
        if (ended.ended) {
            return NONE;
        }
        recordState();
        ended.ended = true;
        return ended.booked;
    }

    public int tick(int ticks) {
        if (!within(ticks, 1, 60)) {
            return BAD_VALUE;
        }
        recordState();
        int before = now.countIn(Ticket.ARRIVED);
        for (int passed = 0; passed < ticks; passed++) {
            now.passTick();
        }
        return now.countIn(Ticket.ARRIVED) - before;
    }

    // ---- texts

    public int type(char character) {
        return text.append(character);
    }

    public int clearText() {
        int before = text.length;
        text.length = 0;
        return before;
    }

    public int readTickets() {
        int fault = text.findFault();
        if (fault >= 0) {
            return FAULT_BASE - fault;
        }
        int refusal = firstRefusal();
        if (refusal != OK) {
            return refusal;
        }
        if (!now.hasTickets(text.tripCount)) {
            return FULL;
        }
        recordState();
        int before = now.paid;
        for (int i = 0; i < text.tripCount && i < text.trips.length; i++) {
            now.admit(text.trips[i]);
        }
        return now.paid - before;
    }

    private int firstRefusal() {
        for (int i = 0; i < text.tripCount && i < text.trips.length; i++) {
            int refusal = now.refusalOf(text.trips[i]);
            if (refusal != OK) {
                return refusal;
            }
        }
        return OK;
    }

    // ---- history

    public int undo() {
        if (recorded < 1 || recorded > history.length) {
            return NONE;
        }
        recorded--;
        now.copyFrom(history[recorded]);
        return recorded;
    }

    public int keep() {
        kept.copyFrom(now);
        hasKept = true;
        return now.tick;
    }

    public int restore() {
        if (!hasKept) {
            return NONE;
        }
        recordState();
        now.copyFrom(kept);
        return now.tick;
    }

    private void recordState() {
        if (recorded >= history.length) {
            dropOldestState();
        }
        if (within(recorded, 0, history.length - 1)) {
            history[recorded].copyFrom(now);
            recorded++;
        }
    }

    private void dropOldestState() {
        State oldest = history[0];
        for (int i = 1; i < history.length; i++) {
            history[i - 1] = history[i];
        }
        recorded = history.length - 1;
        history[recorded] = oldest;
    }

    // ---- what is told

    public int line(int line, int what) {
        if (!isLine(line)) {
            return UNKNOWN;
        }
        Line told = now.lineOf(line);
        switch (what) {
            case 0: return told.slots;
            case 1: return told.phase;
            case 2: return told.drift + 100;
            case 3: return told.heat + 100;
            case 4: return told.stationCount;
            case 5: return told.riderCount();
            case 6: return now.hallLength(told);
            case 7: return told.paused;
            case 8: return told.skipped;
            default: return BAD_VALUE;
        }
    }

    public int slot(int line, int slot) {
        if (!isLine(line)) {
            return UNKNOWN;
        }
        Line told = now.lineOf(line);
        return within(slot, 0, told.slots - 1) ? told.riderIn(slot) : BAD_VALUE;
    }

    public int station(int station, int what) {
        Station told = now.stationOf(station);
        if (told == null) {
            return UNKNOWN;
        }
        switch (what) {
            case 0: return told.offset;
            case 1: return now.lineOf(told.line).slotAt(told.offset);
            case 2: return now.queueLength(told.code);
            case 3: return told.boarded;
            case 4: return told.arrived;
            case 5: return told.calledOff;
            case 6: return told.shovedOut;
            case 7: return told.callCount;
            case 8: return numberOf(now.nextToBoard(told));
            default: return BAD_VALUE;
        }
    }

    public int waiting(int station, int place) {
        Station told = now.stationOf(station);
        if (told == null) {
            return UNKNOWN;
        }
        return place < 0 ? BAD_VALUE : numberOf(now.inQueue(told.code, place));
    }

    public int calls(int station, int place) {
        Station told = now.stationOf(station);
        if (told == null) {
            return UNKNOWN;
        }
        return place < 0 ? BAD_VALUE : told.callAt(place);
    }

    public int ticket(int ticket, int what) {
        Ticket told = now.ticketOf(ticket);
        if (told == null) {
            return UNKNOWN;
        }
        switch (what) {
            case 0: return told.trip.value;
            case 1: return told.trip.kind;
            case 2: return told.trip.from;
            case 3: return told.trip.to;
            case 4: return told.lapsLeft;
            case 5: return told.paid;
            case 6: return told.state;
            case 7: return told.line;
            case 8: return told.slot;
            case 9: return told.bookedIn;
            case 10: return told.boardedIn;
            case 11: return told.endedIn;
            case 12: return told.endedAt;
            case 13: return told.shovedBy;
            default: return BAD_VALUE;
        }
    }

    public int ordered(int order, int what) {
        Order told = now.orderOf(order);
        if (told == null) {
            return UNKNOWN;
        }
        switch (what) {
            case 0: return told.period;
            case 1: return told.givenIn;
            case 2: return told.booked;
            case 3: return told.skipped;
            case 4: return told.ended ? 1 : 0;
            case 5: return told.trip.value;
            case 6: return told.trip.from;
            default: return BAD_VALUE;
        }
    }

    public int price(int kind, int laps) {
        if (!within(kind, 1, Trip.BEST_KIND) || !within(laps, 1, Trip.MOST_LAPS)) {
            return BAD_VALUE;
        }
        return now.priceOf(kind, laps);
    }

    public int fate(int ticket, int what) {
        Ticket live = now.ticketOf(ticket);
        if (live == null) {
            return UNKNOWN;
        }
        if (!within(what, 0, 3)) {
            return BAD_VALUE;
        }
        if (live.hasEnded()) {
            return NOT_POSSIBLE;
        }
        trial.copyFrom(now);
        Ticket later = trial.ticketOf(ticket);
        for (int ticks = 1; later != null && ticks <= LOOK_AHEAD; ticks++) {
            trial.passTick();
            if (later.hasEnded()) {
                return fateTold(later, what, ticks);
            }
        }
        return NONE;
    }

    private static int fateTold(Ticket ended, int what, int ticks) {
        switch (what) {
            case 0: return ended.state;
            case 1: return ticks;
            case 2: return ended.endedAt;
            default: return ended.lapsLeft;
        }
    }

    public int slotIn(int station, int ticks) {
        Station told = now.stationOf(station);
        if (told == null) {
            return UNKNOWN;
        }
        if (!within(ticks, 0, LOOK_AHEAD)) {
            return BAD_VALUE;
        }
        Line course = trialLine(told.line);
        for (int passed = 0; passed < ticks; passed++) {
            course.advance();
        }
        return course.slotAt(told.offset);
    }

    public int lapsNeeded(int from, int to) {
        Station start = now.stationOf(from);
        Station goal = now.stationOf(to);
        if (start == null || goal == null) {
            return UNKNOWN;
        }
        if (from == to || start.line != goal.line) {
            return BAD_VALUE;
        }
        return fewestLaps(start.offset, goal.offset, trialLine(start.line));
    }

    private static int fewestLaps(int start, int goal, Line course) {
        int slot = course.slotAt(start);
        int laps = 1;
        for (int passed = 1; passed <= LOOK_AHEAD; passed++) {
            course.advance();
            if (course.slotAt(goal) == slot) {
                return laps;
            }
            if (course.slotAt(start) == slot) {
                laps++;
            }
            if (laps > Trip.MOST_LAPS) {
                return NONE;
            }
        }
        return NONE;
    }

    private Line trialLine(int number) {
        Line course = trial.lineOf(number);
        course.copyFrom(now.lineOf(number));
        return course;
    }

    public int event(int back, int what) {
        if (back < 0 || !within(what, 0, Log.WIDTH - 1)) {
            return BAD_VALUE;
        }
        return now.log.told(back, what);
    }

    public int count(int what) {
        if (within(what, 2, 10)) {
            return now.countIn(what - 2);
        }
        switch (what) {
            case 0: return now.tick;
            case 1: return now.ticketCount;
            case 11: return now.paid;
            case 12: return now.earned;
            case 13: return now.refunded;
            case 14: return now.paid - now.earned - now.refunded;
            case 15: return now.fare;
            case 16: return now.patience;
            case 17: return now.orderCount;
            case 18: return now.arrivedValues;
            case 19: return recorded;
            case 20: return text.length;
            default: return BAD_VALUE;
        }
    }

    private static boolean isLine(int line) {
        return line == 0 || line == 1;
    }

    private static boolean within(int number, int least, int most) {
        return number >= least && number <= most;
    }

    private static int numberOf(Ticket ticket) {
        return ticket == null ? NONE : ticket.number;
    }

    /** What a ticket asks for: a ticket, an order and a text of tickets hold it alike. */
    private static final class Trip {
        static final int MOST_VALUE = 65535;
        static final int BEST_KIND = 3;
        static final int MOST_LAPS = 9;

        int value;
        int kind;
        int from;
        int to;
        int laps;

        void copyFrom(Trip other) {
            value = other.value;
            kind = other.kind;
            from = other.from;
            to = other.to;
            laps = other.laps;
        }

        boolean isGood() {
            return within(value, 0, MOST_VALUE) && within(kind, 1, BEST_KIND)
                && within(laps, 1, MOST_LAPS) && from != to;
        }

        int lineTo() {
            return to / 10;
        }
    }

    private static final class Ticket {
        static final int WAITS = 0;
        static final int RIDES = 1;
        static final int IN_HALL = 2;
        static final int ARRIVED = 3;
        static final int CALLED_OFF = 4;
        static final int SHOVED_OUT = 5;
        static final int LAPS_USED = 6;
        static final int DRAINED = 7;
        static final int CANCELLED = 8;

        final int number;
        final Trip trip = new Trip();
        int lapsLeft;
        int paid;
        int state;
        int line;
        int slot;
        int bookedIn;
        int boardedIn;
        int endedIn;
        int endedAt;
        int shovedBy;
        // The tick in which it came to the queue where it stands, and where it boarded its line.
        int cameIn;
        int boardedAt;

        Ticket(int number) {
            this.number = number;
        }

        void copyFrom(Ticket other) {
            trip.copyFrom(other.trip);
            lapsLeft = other.lapsLeft;
            paid = other.paid;
            state = other.state;
            line = other.line;
            slot = other.slot;
            bookedIn = other.bookedIn;
            boardedIn = other.boardedIn;
            endedIn = other.endedIn;
            endedAt = other.endedAt;
            shovedBy = other.shovedBy;
            cameIn = other.cameIn;
            boardedAt = other.boardedAt;
        }

        void issue(Trip wanted, int price, int tick) {
            trip.copyFrom(wanted);
            lapsLeft = wanted.laps;
            paid = price;
            state = WAITS;
            line = NONE;
            slot = NONE;
            bookedIn = tick;
            boardedIn = NONE;
            endedIn = NONE;
            endedAt = NONE;
            shovedBy = NONE;
            cameIn = tick;
            boardedAt = NONE;
        }

        boolean hasEnded() {
            return state >= ARRIVED;
        }

        /** The queue in which it stands: the station's own number, or that of a line's hall. */
        int queue() {
            if (state == WAITS) {
                return trip.from;
            }
            return state == IN_HALL ? Line.HALL + line : NONE;
        }

        void ride(Station station, int place, int tick) {
            state = RIDES;
            line = station.line;
            slot = place;
            boardedAt = station.code;
            if (boardedIn == NONE) {
                boardedIn = tick;
            }
        }

        void enterHall(int hallLine, int tick) {
            state = IN_HALL;
            line = hallLine;
            slot = NONE;
            cameIn = tick;
        }

        void finish(int endState, int station, int tick) {
            state = endState;
            line = NONE;
            slot = NONE;
            endedIn = tick;
            endedAt = station;
        }
    }

    private static final class Order {
        final Trip trip = new Trip();
        int period;
        int givenIn;
        int booked;
        int skipped;
        boolean ended;

        void copyFrom(Order other) {
            trip.copyFrom(other.trip);
            period = other.period;
            givenIn = other.givenIn;
            booked = other.booked;
            skipped = other.skipped;
            ended = other.ended;
        }

        void give(Trip wanted, int everyTicks, int tick) {
            trip.copyFrom(wanted);
            period = everyTicks;
            givenIn = tick;
            booked = 0;
            skipped = 0;
            ended = false;
        }

        boolean isDue(int tick) {
            return !ended && period > 0 && (tick - givenIn) % period == 0;
        }
    }

    private static final class Station {
        static final int MOST_CALLS = 3;

        final int line;
        final int code;
        final boolean isJunction;
        final int[] values = new int[MOST_CALLS];
        int callCount;
        int offset;
        int boarded;
        int arrived;
        int calledOff;
        int shovedOut;

        Station(int line, int number) {
            this.line = line;
            code = 10 * line + number;
            isJunction = number == 0;
        }

        void copyFrom(Station other) {
            System.arraycopy(other.values, 0, values, 0, MOST_CALLS);
            callCount = other.callCount;
            offset = other.offset;
            boarded = other.boarded;
            arrived = other.arrived;
            calledOff = other.calledOff;
            shovedOut = other.shovedOut;
        }

        void open(int place) {
            offset = place;
            callCount = 0;
            boarded = 0;
            arrived = 0;
            calledOff = 0;
            shovedOut = 0;
        }

        int callAt(int place) {
            boolean known = place >= 0 && place < callCount && place < values.length;
            return known ? values[place] : NONE;
        }

        int addCall(int value) {
            if (within(callCount, 0, values.length - 1)) {
                values[callCount] = value;
                callCount++;
            }
            return callCount;
        }

        void removeCall(int place) {
            if (place < 0 || place >= callCount) {
                return;
            }
            for (int i = place; i + 1 < callCount && i + 1 < values.length; i++) {
                values[i] = values[i + 1];
            }
            callCount--;
        }

        /** Does the first call for a value, if there is one. */
        boolean takeCall(int value) {
            for (int place = 0; place < callCount; place++) {
                if (callAt(place) == value) {
                    removeCall(place);
                    return true;
                }
            }
            return false;
        }
    }

    private static final class Line {
        static final int MOST_SLOTS = 24;
        static final int MOST_STATIONS = 6;
        static final int MOST_HEAT = 10;
        static final int MOST_DRIFT = 10;
        static final int HALL_ROOM = 3;
        // Queues are numbered as stations are; the halls' numbers lie above all of these.
        static final int HALL = 20;

        final int number;
        final int[] riders = new int[MOST_SLOTS];
        final Station[] stations = new Station[MOST_STATIONS];
        int stationCount;
        int slots = 8;
        int phase;
        int drift;
        int heat;
        int paused;
        int skipped;

        Line(int number) {
            this.number = number;
            for (int i = 0; i < riders.length; i++) {
                riders[i] = NONE;
            }
            for (int i = 0; i < stations.length; i++) {
                stations[i] = new Station(number, i);
            }
        }

        void copyFrom(Line other) {
            System.arraycopy(other.riders, 0, riders, 0, MOST_SLOTS);
            for (int i = 0; i < MOST_STATIONS; i++) {
                stations[i].copyFrom(other.stations[i]);
            }
            stationCount = other.stationCount;
            slots = other.slots;
            phase = other.phase;
            drift = other.drift;
            heat = other.heat;
            paused = other.paused;
            skipped = other.skipped;
        }

        void rebuild(int newSlots) {
            slots = newSlots;
            phase = 0;
            drift = 0;
        }

        int openStation(int offset) {
            int opened = stationCount;
            if (within(opened, 0, stations.length - 1)) {
                stations[opened].open(offset);
                stationCount++;
            }
            return opened;
        }

        Station stationAt(int place) {
            boolean known = within(place, 0, stationCount - 1) && place < stations.length;
            return known ? stations[place] : null;
        }

        boolean hasOffset(int offset) {
            for (int i = 0; i < stationCount && i < stations.length; i++) {
                if (stations[i].offset == offset) {
                    return true;
                }
            }
            return false;
        }

        boolean hasOffsetFrom(int least) {
            for (int i = 0; i < stationCount && i < stations.length; i++) {
                if (stations[i].offset >= least) {
                    return true;
                }
            }
            return false;
        }

        int hall() {
            return HALL + number;
        }

        int slotAt(int offset) {
            return around(phase + offset);
        }

        int around(int place) {
            return slots > 0 ? place % slots : 0;
        }

        int riderIn(int slot) {
            return within(slot, 0, riders.length - 1) ? riders[slot] : NONE;
        }

        void setRider(int slot, int rider) {
            if (within(slot, 0, riders.length - 1)) {
                riders[slot] = rider;
            }
        }

        int riderCount() {
            int found = 0;
            for (int i = 0; i < riders.length; i++) {
                if (riders[i] != NONE) {
                    found++;
                }
            }
            return found;
        }

        /** Moves the line by a tick; answers the kind of the event if it pauses or skips. */
        int advance() {
            drift += heat;
            if (drift >= MOST_DRIFT) {
                drift -= MOST_DRIFT;
                paused++;
                return Log.PAUSES;
            }
            if (drift <= -MOST_DRIFT) {
                drift += MOST_DRIFT;
                skipped++;
                phase = around(phase + 2);
                return Log.SKIPS;
            }
            phase = around(phase + 1);
            return NONE;
        }
    }

    /** The latest events, in a ring of rows. */
    private static final class Log {
        static final int BOARDS = 0;
        static final int ARRIVES = 1;
        static final int CALLED_OFF = 2;
        static final int ENTERS_HALL = 3;
        static final int LAPS_USED = 4;
        static final int SHOVED_OUT = 5;
        static final int PAUSES = 6;
        static final int SKIPS = 7;
        static final int DRAINED = 8;

        static final int ROOM = 12;
        static final int WIDTH = 5;

        final int[] cells = new int[ROOM * WIDTH];
        int known;
        int nextRow;

        void copyFrom(Log other) {
            System.arraycopy(other.cells, 0, cells, 0, ROOM * WIDTH);
            known = other.known;
            nextRow = other.nextRow;
        }

        void write(int kind, int rider, int line, int station, int tick) {
            if (nextRow < 0 || nextRow >= ROOM) {
                return;
            }
            int cell = nextRow * WIDTH;
            cells[cell] = kind;
            cells[cell + 1] = rider;
            cells[cell + 2] = line;
            cells[cell + 3] = station;
            cells[cell + 4] = tick;
            nextRow = (nextRow + 1) % ROOM;
            known = known < ROOM ? known + 1 : ROOM;
        }

        int told(int back, int what) {
            if (!within(back, 0, known - 1)) {
                return NONE;
            }
            int cell = Math.floorMod(nextRow - 1 - back, ROOM) * WIDTH + what;
            return within(cell, 0, cells.length - 1) ? cells[cell] : NONE;
        }
    }

    /** All that undo() and restore() bring back. */
    private static final class State {
        static final int MOST_TICKETS = 40;
        static final int MOST_ORDERS = 4;

        final Line zero = new Line(0);
        final Line one = new Line(1);
        final Ticket[] tickets = new Ticket[MOST_TICKETS];
        final Order[] orders = new Order[MOST_ORDERS];
        final Log log = new Log();
        int ticketCount;
        int orderCount;
        int tick;
        int fare = 10;
        int patience = 3;
        int paid;
        int earned;
        int refunded;
        int arrivedValues;

        State() {
            for (int i = 0; i < tickets.length; i++) {
                tickets[i] = new Ticket(i);
            }
            for (int i = 0; i < orders.length; i++) {
                orders[i] = new Order();
            }
        }

        void copyFrom(State other) {
            zero.copyFrom(other.zero);
            one.copyFrom(other.one);
            for (int i = 0; i < MOST_TICKETS; i++) {
                tickets[i].copyFrom(other.tickets[i]);
            }
            for (int i = 0; i < MOST_ORDERS; i++) {
                orders[i].copyFrom(other.orders[i]);
            }
            log.copyFrom(other.log);
            ticketCount = other.ticketCount;
            orderCount = other.orderCount;
            tick = other.tick;
            fare = other.fare;
            patience = other.patience;
            paid = other.paid;
            earned = other.earned;
            refunded = other.refunded;
            arrivedValues = other.arrivedValues;
        }

        Line lineOf(int number) {
            return number == 0 ? zero : one;
        }

        /** The station with a number as callers give it, or null. */
        Station stationOf(int code) {
            return within(code, 0, 19) ? lineOf(code / 10).stationAt(code % 10) : null;
        }

        Ticket ticketOf(int number) {
            boolean known = within(number, 0, ticketCount - 1) && number < tickets.length;
            return known ? tickets[number] : null;
        }

        Order orderOf(int number) {
            boolean known = within(number, 0, orderCount - 1) && number < orders.length;
            return known ? orders[number] : null;
        }

        boolean hasTickets(int wanted) {
            return ticketCount + wanted <= MOST_TICKETS;
        }

        int refusalOf(Trip trip) {
            if (stationOf(trip.from) == null || stationOf(trip.to) == null) {
                return UNKNOWN;
            }
            return trip.isGood() ? OK : BAD_VALUE;
        }

        int priceOf(int kind, int laps) {
            return kind * laps * fare + (kind == Trip.BEST_KIND ? 25 : 0);
        }

        int countIn(int state) {
            int found = 0;
            for (int i = 0; i < ticketCount && i < tickets.length; i++) {
                if (tickets[i].state == state) {
                    found++;
                }
            }
            return found;
        }

        // ---- queues

        int queueLength(int queue) {
            int found = 0;
            for (int i = 0; i < ticketCount && i < tickets.length; i++) {
                if (tickets[i].queue() == queue) {
                    found++;
                }
            }
            return found;
        }

        int hallLength(Line line) {
            int found = 0;
            for (int i = 0; i < ticketCount && i < tickets.length; i++) {
                if (tickets[i].state == Ticket.IN_HALL && tickets[i].line == line.number) {
                    found++;
                }
            }
            return found;
        }

        Ticket firstIn(int queue) {
            Ticket first = null;
            for (int i = 0; i < ticketCount && i < tickets.length; i++) {
                Ticket next = tickets[i];
                if (next.queue() == queue && (first == null || next.trip.kind > first.trip.kind)) {
                    first = next;
                }
            }
            return first;
        }

        Ticket inQueue(int queue, int place) {
            int ahead = place;
            for (int kind = Trip.BEST_KIND; kind >= 1; kind--) {
                for (int i = 0; i < ticketCount && i < tickets.length; i++) {
                    Ticket next = tickets[i];
                    if (next.queue() == queue && next.trip.kind == kind) {
                        if (ahead == 0) {
                            return next;
                        }
                        ahead--;
                    }
                }
            }
            return null;
        }

        /** Those in the hall keep those at the junction's station from boarding. */
        Ticket nextToBoard(Station station) {
            Ticket fromHall = station.isJunction ? firstIn(lineOf(station.line).hall()) : null;
            return fromHall == null ? firstIn(station.code) : fromHall;
        }

        // ---- how tickets and orders begin and end

        int admit(Trip trip) {
            int number = ticketCount;
            if (!within(number, 0, tickets.length - 1)) {
                return FULL;
            }
            int price = priceOf(trip.kind, trip.laps);
            tickets[number].issue(trip, price, tick);
            paid += price;
            ticketCount++;
            return number;
        }

        int giveOrder(Trip trip, int period) {
            int number = orderCount;
            if (!within(number, 0, orders.length - 1)) {
                return FULL;
            }
            orders[number].give(trip, period, tick);
            orderCount++;
            return number;
        }

        /** Cancels a ticket; answers what is refunded. */
        int withdraw(Ticket ticket) {
            int back = ticket.paid;
            if (ticket.state == Ticket.RIDES) {
                back = ticket.paid / 2;
                lineOf(ticket.line).setRider(ticket.slot, NONE);
            }
            refunded += back;
            earned += ticket.paid - back;
            ticket.finish(Ticket.CANCELLED, NONE, tick);
            return back;
        }

        void putOutRiders(Line line) {
            for (int slot = 0; slot < line.slots; slot++) {
                Ticket rider = ticketOf(line.riderIn(slot));
                if (rider != null) {
                    log.write(Log.DRAINED, rider.number, line.number, NONE, tick);
                    refunded += rider.paid;
                    rider.finish(Ticket.DRAINED, NONE, tick);
                    line.setRider(slot, NONE);
                }
            }
        }

        // ---- a tick

        void passTick() {
            followOrders();
            serveLine(zero);
            serveLine(one);
            moveLine(zero);
            moveLine(one);
            tick++;
        }

        void followOrders() {
            for (int i = 0; i < orderCount && i < orders.length; i++) {
                Order order = orders[i];
                if (order.isDue(tick)) {
                    followOrder(order);
                }
            }
        }

        void followOrder(Order order) {
            if (hasTickets(1)) {
                admit(order.trip);
                order.booked++;
            } else {
                order.skipped++;
            }
        }

        void serveLine(Line line) {
            for (int i = 0; i < line.stationCount && i < line.stations.length; i++) {
                serveStation(line, line.stations[i]);
            }
        }

        void serveStation(Line line, Station station) {
            int slot = line.slotAt(station.offset);
            Ticket rider = ticketOf(line.riderIn(slot));
            if (rider != null && getsOff(rider, station)) {
                line.setRider(slot, NONE);
                rider = null;
            }
            Ticket next = nextToBoard(station);
            if (next == null || rider != null && !shoves(next, rider)) {
                return;
            }
            if (rider != null) {
                station.shovedOut++;
                rider.shovedBy = next.number;
                putOut(rider, station, Ticket.SHOVED_OUT, Log.SHOVED_OUT);
            }
            board(next, line, station, slot);
        }

        /** What the station does with a rider; answers whether its slot is empty then. */
        boolean getsOff(Ticket rider, Station station) {
            if (rider.trip.to == station.code) {
                arrive(rider, station);
                return true;
            }
            if (station.takeCall(rider.trip.value)) {
                station.calledOff++;
                putOut(rider, station, Ticket.CALLED_OFF, Log.CALLED_OFF);
                return true;
            }
            if (changesLines(rider, station)) {
                log.write(Log.ENTERS_HALL, rider.number, station.line, station.code, tick);
                rider.enterHall(rider.trip.lineTo(), tick);
                return true;
            }
            if (rider.boardedAt != station.code) {
                return false;
            }
            rider.lapsLeft--;
            if (rider.lapsLeft > 0) {
                return false;
            }
            putOut(rider, station, Ticket.LAPS_USED, Log.LAPS_USED);
            return true;
        }

        void arrive(Ticket rider, Station station) {
            log.write(Log.ARRIVES, rider.number, station.line, station.code, tick);
            station.arrived++;
            arrivedValues ^= rider.trip.value;
            earned += rider.paid;
            rider.finish(Ticket.ARRIVED, station.code, tick);
        }

        boolean changesLines(Ticket rider, Station station) {
            int goal = rider.trip.lineTo();
            return station.isJunction && goal != station.line
                && hallLength(lineOf(goal)) < Line.HALL_ROOM;
        }

        boolean shoves(Ticket next, Ticket rider) {
            return next.trip.kind > rider.trip.kind && tick - next.cameIn >= patience;
        }

        void putOut(Ticket rider, Station station, int state, int kind) {
            log.write(kind, rider.number, station.line, station.code, tick);
            refunded += rider.paid;
            rider.finish(state, station.code, tick);
        }

        void board(Ticket next, Line line, Station station, int slot) {
            log.write(Log.BOARDS, next.number, line.number, station.code, tick);
            station.boarded++;
            next.ride(station, slot, tick);
            line.setRider(slot, next.number);
        }

        void moveLine(Line line) {
            int kind = line.advance();
            if (kind != NONE) {
                log.write(kind, NONE, line.number, NONE, tick);
            }
        }
    }

    /** The text of tickets and its reader. */
    private static final class TicketText {
        static final int ROOM = 60;
        // A ticket takes eleven characters at least, and one more parts it from the next.
        static final int MOST_TRIPS = 5;

        final char[] signs = new char[ROOM];
        final Trip[] trips = new Trip[MOST_TRIPS];
        int length;
        int tripCount;
        int at;

        TicketText() {
            for (int i = 0; i < trips.length; i++) {
                trips[i] = new Trip();
            }
        }

        int append(char sign) {
            if (!within(length, 0, signs.length - 1)) {
                return FULL;
            }
            signs[length] = sign;
            length++;
            return length;
        }

        /** Reads the text into the trips; answers the place of its fault, or NONE. */
        int findFault() {
            at = 0;
            tripCount = 0;
            for (int i = 0; i < trips.length; i++) {
                if (!readTrip(trips[i])) {
                    return at;
                }
                tripCount = i + 1;
                if (at >= length) {
                    return NONE;
                }
                if (!accept(';')) {
                    return at;
                }
            }
            return at;
        }

        boolean readTrip(Trip trip) {
            trip.value = readValue();
            if (trip.value < 0 || !accept(',')) {
                return false;
            }
            trip.kind = readDigit(1, Trip.BEST_KIND);
            if (trip.kind < 0 || !accept(',')) {
                return false;
            }
            trip.from = readStation();
            if (trip.from < 0 || !accept('>')) {
                return false;
            }
            trip.to = readStation();
            if (trip.to < 0 || !accept('*')) {
                return false;
            }
            trip.laps = readDigit(1, Trip.MOST_LAPS);
            return trip.laps >= 0;
        }

        int readValue() {
            int value = readDigit(0, 9);
            if (value <= 0) {
                return value;
            }
            for (int more = 0; more < 4; more++) {
                int digit = readDigit(0, 9);
                if (digit < 0) {
                    return value;
                }
                value = value * 10 + digit;
            }
            return value;
        }

        int readStation() {
            int line = readDigit(0, 1);
            int number = line < 0 ? NONE : readDigit(0, 5);
            return number < 0 ? NONE : 10 * line + number;
        }

        /** Reads a digit that is allowed, or stays where it is and answers NONE. */
        int readDigit(int least, int most) {
            int digit = signHere() - '0';
            if (!within(digit, least, most)) {
                return NONE;
            }
            at++;
            return digit;
        }

        boolean accept(char sign) {
            if (signHere() != sign) {
                return false;
            }
            at++;
            return true;
        }

        int signHere() {
            return within(at, 0, length - 1) && at < signs.length ? signs[at] : NONE;
        }
    }
}
