import java.io.ByteArrayInputStream;
import java.io.ByteArrayOutputStream;
import java.io.IOException;
import java.io.ObjectInputStream;
import java.io.ObjectOutputStream;
import java.io.Serializable;
import java.util.ArrayDeque;
import java.util.ArrayList;
import java.util.Comparator;
import java.util.Deque;
import java.util.List;
import java.util.Map;
import java.util.TreeMap;
import java.util.regex.Matcher;
import java.util.regex.Pattern;

/**
 * The document once more, in another form: queues are lists, counters are tallies, accounts are
 * sums over words, copies go through serialization, and forecasts are tried out. The random runs
 * compare MercuryLine with it; nothing here is taken over from there.
 */
final class ReferenceLine {
    private static final int UNKNOWN = -1;
    private static final int BAD_VALUE = -2;
    private static final int FULL = -3;
    private static final int NOT_POSSIBLE = -4;
    private static final int NONE = -5;

    private static final Pattern TICKETS;

    static {
        String ticket = "(0|[1-9][0-9]{0,4}),[1-3],[01][0-5]>[01][0-5]\\*[1-9]";
        TICKETS = Pattern.compile(ticket + "(;" + ticket + ")*", Pattern.DOTALL);
    }

    private static final class Word implements Serializable {
        private static final long serialVersionUID = 1;
        int number, value, kind, from, to, laps, left, paid, earned, refunded;
        int state, line = NONE, slot = NONE, boardedAt, came;
        int booked, firstBoarded = NONE, ended = NONE, endedAt = NONE, shovedBy = NONE;
    }

    private static final class Stop implements Serializable {
        private static final long serialVersionUID = 1;
        int offset;
        List<Word> queue = new ArrayList<>();
        List<Integer> calls = new ArrayList<>();
    }

    private static final class Standing implements Serializable {
        private static final long serialVersionUID = 1;
        int period, given, booked, skipped;
        boolean over;
        Word like;
    }

    private static final class World implements Serializable {
        private static final long serialVersionUID = 1;
        Word[][] seats = {new Word[8], new Word[8]};
        int[] phase = new int[2], drift = new int[2], heat = new int[2];
        List<List<Word>> halls = List.of(new ArrayList<>(), new ArrayList<>());
        List<List<Stop>> stops = List.of(new ArrayList<>(), new ArrayList<>());
        List<Word> words = new ArrayList<>();
        List<Standing> orders = new ArrayList<>();
        Deque<int[]> log = new ArrayDeque<>();
        Map<String, Integer> tallies = new TreeMap<>();
        int now, fare = 10, patience = 3, xor;
    }

    private static final Comparator<Word> TURN =
        Comparator.comparingInt((Word w) -> -w.kind).thenComparingInt(w -> w.number);

    private World w = new World();
    private World snapshot;
    private final Deque<World> past = new ArrayDeque<>();
    private final StringBuilder text = new StringBuilder();

    private static World copy(World world) {
        try {
            ByteArrayOutputStream bytes = new ByteArrayOutputStream();
            try (ObjectOutputStream out = new ObjectOutputStream(bytes)) {
                out.writeObject(world);
            }
            try (ObjectInputStream in =
                     new ObjectInputStream(new ByteArrayInputStream(bytes.toByteArray()))) {
                return (World) in.readObject();
            }
        } catch (IOException | ClassNotFoundException e) {
            throw new IllegalStateException(e);
        }
    }

    private void act() {
        past.addLast(copy(w));
        if (past.size() > 4) {
            past.removeFirst();
        }
    }

    private Stop stop(int code) {
        for (int line = 0; line < 2; line++) {
            for (int i = 0; i < w.stops.get(line).size(); i++) {
                if (code == 10 * line + i) {
                    return w.stops.get(line).get(i);
                }
            }
        }
        return null;
    }

    private static boolean out(int n, int low, int high) {
        return n < low || n > high;
    }

    private static long riders(World world, int line) {
        long n = 0;
        for (Word word : world.seats[line]) {
            n += word == null ? 0 : 1;
        }
        return n;
    }

    int build(int line, int slots) {
        if (out(line, 0, 1)) return UNKNOWN;
        if (out(slots, 2, 24)) return BAD_VALUE;
        if (riders(w, line) > 0) return NOT_POSSIBLE;
        if (w.stops.get(line).stream().anyMatch(s -> s.offset >= slots)) return NOT_POSSIBLE;
        int old = w.seats[line].length;
        if (old == slots) return NONE;
        act();
        w.seats[line] = new Word[slots];
        w.phase[line] = 0;
        w.drift[line] = 0;
        return old;
    }

    int addStation(int line, int offset) {
        if (out(line, 0, 1)) return UNKNOWN;
        if (out(offset, 0, w.seats[line].length - 1)) return BAD_VALUE;
        if (w.stops.get(line).stream().anyMatch(s -> s.offset == offset)) return NOT_POSSIBLE;
        if (w.stops.get(line).size() == 6) return FULL;
        act();
        Stop added = new Stop();
        added.offset = offset;
        w.stops.get(line).add(added);
        return w.stops.get(line).size() - 1;
    }

    int setHeat(int line, int heat) {
        if (out(line, 0, 1)) return UNKNOWN;
        if (out(heat, -10, 10)) return BAD_VALUE;
        if (heat == w.heat[line]) return NONE;
        act();
        int old = w.heat[line];
        w.heat[line] = heat;
        return old > heat ? old - heat : heat - old;
    }

    int setFare(int fare) {
        if (out(fare, 1, 99)) return BAD_VALUE;
        if (fare == w.fare) return NONE;
        act();
        int old = w.fare;
        w.fare = fare;
        return old;
    }

    int setPatience(int ticks) {
        if (out(ticks, 0, 50)) return BAD_VALUE;
        if (ticks == w.patience) return NONE;
        act();
        int old = w.patience;
        w.patience = ticks;
        return old;
    }

    int drain(int line) {
        if (out(line, 0, 1)) return UNKNOWN;
        int n = (int) riders(w, line);
        if (n == 0) return NONE;
        act();
        for (Word word : w.seats[line].clone()) {
            if (word != null) {
                leave(w, word);
                word.refunded = word.paid;
                end(w, word, 7, NONE);
                log(w, 8, word.number, line, NONE);
            }
        }
        return n;
    }

    private static int cost(World world, int kind, int laps) {
        switch (kind) {
            case 1: return laps * world.fare;
            case 2: return 2 * laps * world.fare;
            default: return 3 * laps * world.fare + 25;
        }
    }

    private int wrong(int value, int kind, int from, int to, int laps) {
        if (stop(from) == null || stop(to) == null) return UNKNOWN;
        if (out(value, 0, 65535) || out(kind, 1, 3) || out(laps, 1, 9) || from == to) {
            return BAD_VALUE;
        }
        return 0;
    }

    private static Word add(World world, int value, int kind, int from, int to, int laps) {
        Word word = new Word();
        word.number = world.words.size();
        word.value = value;
        word.kind = kind;
        word.from = from;
        word.to = to;
        word.laps = laps;
        word.left = laps;
        word.paid = cost(world, kind, laps);
        word.booked = world.now;
        word.came = world.now;
        world.words.add(word);
        List<Word> queue = world.stops.get(from / 10).get(from % 10).queue;
        queue.add(word);
        queue.sort(TURN);
        return word;
    }

    int book(int value, int kind, int from, int to, int laps) {
        int wrong = wrong(value, kind, from, to, laps);
        if (wrong != 0) return wrong;
        if (w.words.size() >= 40) return FULL;
        act();
        return add(w, value, kind, from, to, laps).number;
    }

    int cancel(int ticket) {
        if (out(ticket, 0, w.words.size() - 1)) return UNKNOWN;
        if (w.words.get(ticket).state > 2) return NOT_POSSIBLE;
        act();
        Word word = w.words.get(ticket);
        word.refunded = word.state == 1 ? word.paid / 2 : word.paid;
        word.earned = word.paid - word.refunded;
        leave(w, word);
        end(w, word, 8, NONE);
        return word.refunded;
    }

    /** Takes a word away from wherever it is. */
    private static void leave(World world, Word word) {
        for (int line = 0; line < 2; line++) {
            for (int i = 0; i < world.seats[line].length; i++) {
                if (world.seats[line][i] == word) {
                    world.seats[line][i] = null;
                }
            }
            world.halls.get(line).remove(word);
            for (Stop stop : world.stops.get(line)) {
                stop.queue.remove(word);
            }
        }
        word.line = NONE;
        word.slot = NONE;
    }

    private static void end(World world, Word word, int state, int at) {
        word.state = state;
        word.ended = world.now;
        word.endedAt = at;
    }

    private static void log(World world, int kind, int ticket, int line, int at) {
        world.log.addFirst(new int[] {kind, ticket, line, at, world.now});
        while (world.log.size() > 12) {
            world.log.removeLast();
        }
        String key = kind == 6 || kind == 7 ? kind + " on " + line : kind + " at " + at;
        world.tallies.merge(key, 1, Integer::sum);
    }

    int call(int station, int value) {
        Stop stop = stop(station);
        if (stop == null) return UNKNOWN;
        if (out(value, 0, 65535)) return BAD_VALUE;
        if (stop.calls.size() == 3) return FULL;
        act();
        stop.calls.add(value);
        return stop.calls.size();
    }

    int callBack(int station) {
        Stop stop = stop(station);
        if (stop == null) return UNKNOWN;
        if (stop.calls.isEmpty()) return NONE;
        act();
        return stop.calls.remove(0);
    }

    int order(int ticket, int period) {
        if (out(ticket, 0, w.words.size() - 1)) return UNKNOWN;
        if (out(period, 1, 50)) return BAD_VALUE;
        if (w.orders.size() == 4) return FULL;
        act();
        Standing order = new Standing();
        order.period = period;
        order.given = w.now;
        order.like = w.words.get(ticket);
        w.orders.add(order);
        return w.orders.size() - 1;
    }

    int endOrder(int order) {
        if (out(order, 0, w.orders.size() - 1)) return UNKNOWN;
        if (w.orders.get(order).over) return NONE;
        act();
        w.orders.get(order).over = true;
        return w.orders.get(order).booked;
    }

    int tick(int ticks) {
        if (out(ticks, 1, 60)) return BAD_VALUE;
        act();
        int arrived = 0;
        for (int i = 0; i < ticks; i++) {
            arrived += pass(w);
        }
        return arrived;
    }

    private static int pass(World world) {
        for (Standing order : world.orders) {
            if (!order.over && (world.now - order.given) % order.period == 0) {
                if (world.words.size() < 40) {
                    Word like = order.like;
                    add(world, like.value, like.kind, like.from, like.to, like.laps);
                    order.booked++;
                } else {
                    order.skipped++;
                }
            }
        }
        int arrived = 0;
        for (int line = 0; line < 2; line++) {
            for (int i = 0; i < world.stops.get(line).size(); i++) {
                arrived += serve(world, line, i);
            }
        }
        for (int line = 0; line < 2; line++) {
            move(world, line);
        }
        world.now++;
        return arrived;
    }

    private static int serve(World world, int line, int i) {
        Stop stop = world.stops.get(line).get(i);
        int code = 10 * line + i;
        Word[] seats = world.seats[line];
        int slot = (world.phase[line] + stop.offset) % seats.length;
        Word in = seats[slot];
        int arrived = 0;
        if (in != null) {
            List<Word> otherHall = world.halls.get(1 - line);
            if (in.to == code) {
                leave(world, in);
                in.earned = in.paid;
                end(world, in, 3, code);
                world.xor ^= in.value;
                log(world, 1, in.number, line, code);
                arrived = 1;
            } else if (stop.calls.contains(in.value)) {
                stop.calls.remove(Integer.valueOf(in.value));
                putOut(world, in, 4, 2, code);
            } else if (in.to / 10 != line && i == 0 && otherHall.size() < 3) {
                leave(world, in);
                in.state = 2;
                in.line = 1 - line;
                in.came = world.now;
                otherHall.add(in);
                otherHall.sort(TURN);
                log(world, 3, in.number, line, code);
            } else if (in.boardedAt == code) {
                in.left--;
                if (in.left == 0) {
                    putOut(world, in, 6, 4, code);
                }
            }
        }
        List<Word> queue = i == 0 && !world.halls.get(line).isEmpty() ? world.halls.get(line) : stop.queue;
        if (!queue.isEmpty()) {
            Word next = queue.get(0);
            Word old = seats[slot];
            boolean shoves = old != null && next.kind > old.kind
                && world.now - next.came >= world.patience;
            if (shoves) {
                putOut(world, old, 5, 5, code);
                old.shovedBy = next.number;
            }
            if (old == null || shoves) {
                leave(world, next);
                next.state = 1;
                next.line = line;
                next.slot = slot;
                next.boardedAt = code;
                if (next.firstBoarded == NONE) {
                    next.firstBoarded = world.now;
                }
                seats[slot] = next;
                log(world, 0, next.number, line, code);
            }
        }
        return arrived;
    }

    private static void putOut(World world, Word word, int state, int kind, int code) {
        leave(world, word);
        word.refunded = word.paid;
        end(world, word, state, code);
        log(world, kind, word.number, code / 10, code);
    }

    private static void move(World world, int line) {
        int slots = world.seats[line].length;
        world.drift[line] += world.heat[line];
        int steps = 1;
        if (world.drift[line] >= 10) {
            world.drift[line] -= 10;
            steps = 0;
            log(world, 6, NONE, line, NONE);
        } else if (world.drift[line] <= -10) {
            world.drift[line] += 10;
            steps = 2;
            log(world, 7, NONE, line, NONE);
        }
        for (int i = 0; i < steps; i++) {
            world.phase[line] = world.phase[line] + 1 == slots ? 0 : world.phase[line] + 1;
        }
    }

    int type(char character) {
        if (text.length() == 60) return FULL;
        text.append(character);
        return text.length();
    }

    int clearText() {
        int old = text.length();
        text.setLength(0);
        return old;
    }

    /** Whether a text can be gone on with, or is whole: what the reader of patterns says of it. */
    private static boolean viable(String start) {
        Matcher matcher = TICKETS.matcher(start);
        return matcher.matches() || matcher.hitEnd();
    }

    int readTickets() {
        String read = text.toString();
        if (!TICKETS.matcher(read).matches()) {
            int good = 0;
            while (good < read.length() && viable(read.substring(0, good + 1))) {
                good++;
            }
            return -100 - good;
        }
        List<int[]> wanted = new ArrayList<>();
        for (String ticket : read.split(";")) {
            String[] parts = ticket.split("[,>*]");
            int[] numbers = new int[5];
            for (int i = 0; i < 5; i++) {
                numbers[i] = Integer.parseInt(parts[i]);
            }
            wanted.add(numbers);
        }
        for (int[] n : wanted) {
            int wrong = wrong(n[0], n[1], n[2], n[3], n[4]);
            if (wrong != 0) return wrong;
        }
        if (w.words.size() + wanted.size() > 40) return FULL;
        act();
        int paid = 0;
        for (int[] n : wanted) {
            paid += add(w, n[0], n[1], n[2], n[3], n[4]).paid;
        }
        return paid;
    }

    int undo() {
        if (past.isEmpty()) return NONE;
        w = past.removeLast();
        return past.size();
    }

    int keep() {
        snapshot = copy(w);
        return w.now;
    }

    int restore() {
        if (snapshot == null) return NONE;
        act();
        w = copy(snapshot);
        return w.now;
    }

    private int tally(String key) {
        return w.tallies.getOrDefault(key, 0);
    }

    int line(int line, int what) {
        if (out(line, 0, 1)) return UNKNOWN;
        if (out(what, 0, 8)) return BAD_VALUE;
        return new int[] {w.seats[line].length, w.phase[line], w.drift[line] + 100,
            w.heat[line] + 100, w.stops.get(line).size(), (int) riders(w, line),
            w.halls.get(line).size(), tally("6 on " + line), tally("7 on " + line)}[what];
    }

    int slot(int line, int slot) {
        if (out(line, 0, 1)) return UNKNOWN;
        if (out(slot, 0, w.seats[line].length - 1)) return BAD_VALUE;
        return w.seats[line][slot] == null ? NONE : w.seats[line][slot].number;
    }

    int station(int station, int what) {
        Stop stop = stop(station);
        if (stop == null) return UNKNOWN;
        if (out(what, 0, 8)) return BAD_VALUE;
        int line = station / 10;
        List<Word> next = new ArrayList<>();
        if (station % 10 == 0) next.addAll(w.halls.get(line));
        next.addAll(stop.queue);
        return new int[] {stop.offset, (w.phase[line] + stop.offset) % w.seats[line].length,
            stop.queue.size(), tally("0 at " + station), tally("1 at " + station),
            tally("2 at " + station), tally("5 at " + station), stop.calls.size(),
            next.isEmpty() ? NONE : next.get(0).number}[what];
    }

    int waiting(int station, int place) {
        Stop stop = stop(station);
        if (stop == null) return UNKNOWN;
        if (place < 0) return BAD_VALUE;
        return place < stop.queue.size() ? stop.queue.get(place).number : NONE;
    }

    int calls(int station, int place) {
        Stop stop = stop(station);
        if (stop == null) return UNKNOWN;
        if (place < 0) return BAD_VALUE;
        return place < stop.calls.size() ? stop.calls.get(place) : NONE;
    }

    int ticket(int ticket, int what) {
        if (out(ticket, 0, w.words.size() - 1)) return UNKNOWN;
        if (out(what, 0, 13)) return BAD_VALUE;
        Word t = w.words.get(ticket);
        return new int[] {t.value, t.kind, t.from, t.to, t.left, t.paid, t.state, t.line, t.slot,
            t.booked, t.firstBoarded, t.ended, t.endedAt, t.shovedBy}[what];
    }

    int ordered(int order, int what) {
        if (out(order, 0, w.orders.size() - 1)) return UNKNOWN;
        if (out(what, 0, 6)) return BAD_VALUE;
        Standing o = w.orders.get(order);
        return new int[] {o.period, o.given, o.booked, o.skipped, o.over ? 1 : 0, o.like.value,
            o.like.from}[what];
    }

    int price(int kind, int laps) {
        return out(kind, 1, 3) || out(laps, 1, 9) ? BAD_VALUE : cost(w, kind, laps);
    }

    int fate(int ticket, int what) {
        if (out(ticket, 0, w.words.size() - 1)) return UNKNOWN;
        if (out(what, 0, 3)) return BAD_VALUE;
        if (w.words.get(ticket).state > 2) return NOT_POSSIBLE;
        World later = copy(w);
        for (int i = 0; i < 300; i++) {
            pass(later);
        }
        Word t = later.words.get(ticket);
        if (t.state < 3) return NONE;
        return new int[] {t.state, t.ended - w.now + 1, t.endedAt, t.left}[what];
    }

    int slotIn(int station, int ticks) {
        Stop stop = stop(station);
        if (stop == null) return UNKNOWN;
        if (out(ticks, 0, 300)) return BAD_VALUE;
        World later = copy(w);
        for (int i = 0; i < ticks; i++) {
            move(later, station / 10);
        }
        return (later.phase[station / 10] + stop.offset) % w.seats[station / 10].length;
    }

    /** Tries the laps out, on a line where nobody else is. */
    int lapsNeeded(int from, int to) {
        if (stop(from) == null || stop(to) == null) return UNKNOWN;
        if (from == to || from / 10 != to / 10) return BAD_VALUE;
        int line = from / 10;
        for (int laps = 1; laps <= 9; laps++) {
            World alone = new World();
            alone.seats[0] = new Word[w.seats[line].length];
            alone.phase[0] = w.phase[line];
            alone.drift[0] = w.drift[line];
            alone.heat[0] = w.heat[line];
            for (int code : new int[] {from, to}) {
                Stop stop = new Stop();
                stop.offset = stop(code).offset;
                alone.stops.get(0).add(stop);
            }
            Word word = add(alone, 1, 1, 0, 1, laps);
            for (int i = 0; i < 301; i++) {
                pass(alone);
            }
            if (word.state == 3) return laps;
        }
        return NONE;
    }

    int event(int back, int what) {
        if (back < 0 || out(what, 0, 4)) return BAD_VALUE;
        return back < w.log.size() ? new ArrayList<>(w.log).get(back)[what] : NONE;
    }

    int count(int what) {
        if (out(what, 0, 20)) return BAD_VALUE;
        if (what >= 2 && what <= 10) {
            return (int) w.words.stream().filter(t -> t.state == what - 2).count();
        }
        int paid = w.words.stream().mapToInt(t -> t.paid).sum();
        int earned = w.words.stream().mapToInt(t -> t.earned).sum();
        int refunded = w.words.stream().mapToInt(t -> t.refunded).sum();
        int held = w.words.stream().filter(t -> t.state < 3).mapToInt(t -> t.paid).sum();
        switch (what) {
            case 0: return w.now;
            case 1: return w.words.size();
            case 11: return paid;
            case 12: return earned;
            case 13: return refunded;
            case 14: return held;
            case 15: return w.fare;
            case 16: return w.patience;
            case 17: return w.orders.size();
            case 18: return w.xor;
            case 19: return past.size();
            default: return text.length();
        }
    }
}
