import java.util.Random;

/** Runs of calls drawn from fixed seeds, each answer compared with the one of ReferenceLine. */
public final class RandomRunsTest {
    private static final int CALLS = 512;

    private final Random random;
    private final String name;
    private final MercuryLine line = new MercuryLine();
    private final ReferenceLine reference = new ReferenceLine();
    private final int values;
    private final int wrongPercent;
    private final int longTickPercent;
    private final boolean busy;

    private RandomRunsTest(int seed) {
        random = new Random(seed);
        name = "run " + seed;
        values = 1 + random.nextInt(12);
        wrongPercent = random.nextInt(4) * 5;
        longTickPercent = random.nextInt(3) * 10;
        busy = random.nextBoolean();
    }

    public static void main(String[] args) {
        int runs = args.length > 0 ? Integer.parseInt(args[0]) : 150;
        int first = args.length > 1 ? Integer.parseInt(args[1]) : 1;
        for (int seed = first; seed < first + runs && !Check.anyWrong(); seed++) {
            new RandomRunsTest(seed).run();
        }
        Check.end("RandomRunsTest");
    }

    private void run() {
        lay();
        for (int call = 0; call < CALLS && !Check.anyWrong(); call++) {
            act(random.nextInt(100));
            if (call % 8 == 0) {
                lookAtAll();
            }
            if (call % 16 == 0) {
                lookAhead();
            }
        }
    }

    private void same(String call, int got, int want) {
        Check.due(name + ": " + call, got, want);
    }

    private boolean goesWrong() {
        return random.nextInt(100) < wrongPercent;
    }

    private int odd() {
        int[] odd = {-1, -2, 0, 9, 10, 16, 17, 20, 23, 24, 41, 60, 61, 99, 100, 301, 65536,
            Integer.MAX_VALUE, Integer.MIN_VALUE, Integer.MIN_VALUE + 1};
        return odd[random.nextInt(odd.length)];
    }

    private int from(int low, int high) {
        return goesWrong() ? odd() : low + random.nextInt(high - low + 1);
    }

    private int aLine() {
        return from(0, 1);
    }

    private int aStation() {
        int line = random.nextInt(2);
        int stations = Math.max(1, reference.line(line, 4));
        return goesWrong() ? odd() : 10 * line + random.nextInt(stations);
    }

    private int aTicket() {
        int tickets = Math.max(1, reference.count(1));
        int last = random.nextInt(3) > 0 ? Math.max(0, tickets - 6) : 0;
        return goesWrong() ? odd() : last + random.nextInt(tickets - last);
    }

    private void lay() {
        for (int n = 0; n < 2; n++) {
            if (random.nextInt(3) > 0) {
                int slots = 2 + random.nextInt(busy ? 5 : 23);
                same("build", line.build(n, slots), reference.build(n, slots));
            }
            int stations = 1 + random.nextInt(6);
            for (int i = 0; i < stations; i++) {
                int offset = random.nextInt(24);
                same("addStation", line.addStation(n, offset), reference.addStation(n, offset));
            }
            int heat = random.nextInt(21) - 10;
            same("setHeat", line.setHeat(n, heat), reference.setHeat(n, heat));
        }
    }

    private void act(int choice) {
        if (choice < 24) {
            book();
        } else if (choice < 48) {
            int ticks = random.nextInt(100) < longTickPercent ? from(1, 60) : from(1, 3);
            same("tick(" + ticks + ")", line.tick(ticks), reference.tick(ticks));
        } else if (choice < 56) {
            int station = aStation();
            int value = from(0, values);
            same("call(" + station + ", " + value + ")", line.call(station, value), reference.call(station, value));
        } else if (choice < 58) {
            int station = aStation();
            same("callBack(" + station + ")", line.callBack(station), reference.callBack(station));
        } else if (choice < 63) {
            int ticket = aTicket();
            same("cancel(" + ticket + ")", line.cancel(ticket), reference.cancel(ticket));
        } else if (choice < 66) {
            int ticket = aTicket();
            int period = from(1, 50);
            same("order(" + ticket + ", " + period + ")", line.order(ticket, period), reference.order(ticket, period));
        } else if (choice < 68) {
            int order = from(0, 3);
            same("endOrder(" + order + ")", line.endOrder(order), reference.endOrder(order));
        } else if (choice < 80) {
            change(random.nextInt(7));
        } else if (choice < 88) {
            text();
        } else if (choice < 95) {
            same("undo()", line.undo(), reference.undo());
        } else if (choice < 97) {
            same("keep()", line.keep(), reference.keep());
        } else {
            same("restore()", line.restore(), reference.restore());
        }
    }

    private void book() {
        int value = from(0, values);
        int kind = from(1, 3);
        int from = aStation();
        int to = aStation();
        int laps = from(1, random.nextBoolean() ? 2 : 9);
        same("book(" + value + ", " + kind + ", " + from + ", " + to + ", " + laps + ")",
            line.book(value, kind, from, to, laps), reference.book(value, kind, from, to, laps));
    }

    private void change(int choice) {
        int n = aLine();
        switch (choice) {
            case 0: {
                int slots = from(2, 24);
                same("build(" + n + ", " + slots + ")", line.build(n, slots), reference.build(n, slots));
                break;
            }
            case 1: {
                int offset = from(0, 23);
                same("addStation(" + n + ", " + offset + ")", line.addStation(n, offset), reference.addStation(n, offset));
                break;
            }
            case 2:
            case 3: {
                int heat = from(-10, 10);
                same("setHeat(" + n + ", " + heat + ")", line.setHeat(n, heat), reference.setHeat(n, heat));
                break;
            }
            case 4: {
                int fare = from(1, 99);
                same("setFare(" + fare + ")", line.setFare(fare), reference.setFare(fare));
                break;
            }
            case 5: {
                int ticks = random.nextBoolean() ? from(0, 4) : from(0, 50);
                same("setPatience(" + ticks + ")", line.setPatience(ticks), reference.setPatience(ticks));
                break;
            }
            default:
                if (random.nextInt(3) == 0) {
                    same("drain(" + n + ")", line.drain(n), reference.drain(n));
                }
        }
    }

    private void text() {
        if (random.nextInt(4) > 0) {
            same("clearText()", line.clearText(), reference.clearText());
        }
        int tickets = random.nextInt(4) == 0 ? 5 : 1 + random.nextInt(2);
        StringBuilder wanted = new StringBuilder();
        for (int i = 0; i < tickets; i++) {
            wanted.append(i == 0 ? "" : ";").append(ticketText());
        }
        spoil(wanted);
        for (int i = 0; i < wanted.length(); i++) {
            char c = wanted.charAt(i);
            same("type(" + (int) c + ")", line.type(c), reference.type(c));
        }
        same("readTickets() of " + wanted, line.readTickets(), reference.readTickets());
    }

    private String ticketText() {
        int value = random.nextInt(6) == 0 ? random.nextInt(100000) : random.nextInt(values + 1);
        return value + "," + (1 + random.nextInt(3)) + "," + twoDigits(aPlace()) + ">"
            + twoDigits(aPlace()) + "*" + (1 + random.nextInt(9));
    }

    private int aPlace() {
        int line = random.nextInt(2);
        int stations = Math.max(1, reference.line(line, 4));
        return 10 * line + (random.nextInt(12) == 0 ? random.nextInt(6) : random.nextInt(stations));
    }

    private static String twoDigits(int code) {
        return code < 10 ? "0" + code : "" + code;
    }

    private void spoil(StringBuilder wanted) {
        if (random.nextInt(3) > 0) {
            return;
        }
        String signs = "0123456789,,;>*+-/: <)?\u00e9\u20ac";
        int place = random.nextInt(wanted.length());
        char sign = signs.charAt(random.nextInt(signs.length()));
        switch (random.nextInt(4)) {
            case 0: wanted.setLength(place); break;
            case 1: wanted.setCharAt(place, sign); break;
            case 2: wanted.insert(place, sign); break;
            default: wanted.deleteCharAt(place);
        }
    }

    private void lookAtAll() {
        for (int what = -1; what <= 21; what++) {
            same("count(" + what + ")", line.count(what), reference.count(what));
        }
        for (int n = -1; n <= 2; n++) {
            for (int what = -1; what <= 9; what++) {
                same("line(" + n + ", " + what + ")", line.line(n, what), reference.line(n, what));
            }
            for (int slot = -1; slot <= 24; slot++) {
                same("slot(" + n + ", " + slot + ")", line.slot(n, slot), reference.slot(n, slot));
            }
        }
        for (int station = -1; station <= 20; station++) {
            lookAtStation(station);
        }
        for (int ticket = -1; ticket <= 40; ticket++) {
            for (int what = -1; what <= 14; what++) {
                same("ticket(" + ticket + ", " + what + ")", line.ticket(ticket, what), reference.ticket(ticket, what));
            }
        }
        for (int order = -1; order <= 4; order++) {
            for (int what = -1; what <= 7; what++) {
                same("ordered(" + order + ", " + what + ")", line.ordered(order, what), reference.ordered(order, what));
            }
        }
        for (int back = -1; back <= 12; back++) {
            for (int what = -1; what <= 5; what++) {
                same("event(" + back + ", " + what + ")", line.event(back, what), reference.event(back, what));
            }
        }
        int kind = from(1, 3);
        int laps = from(1, 9);
        same("price(" + kind + ", " + laps + ")", line.price(kind, laps), reference.price(kind, laps));
    }

    private void lookAtStation(int station) {
        for (int what = -1; what <= 9; what++) {
            same("station(" + station + ", " + what + ")", line.station(station, what), reference.station(station, what));
        }
        for (int place = -1; place <= 6; place++) {
            same("waiting(" + station + ", " + place + ")", line.waiting(station, place), reference.waiting(station, place));
        }
        for (int place = -1; place <= 3; place++) {
            same("calls(" + station + ", " + place + ")", line.calls(station, place), reference.calls(station, place));
        }
    }

    private void lookAhead() {
        for (int i = 0; i < 4; i++) {
            int ticket = aTicket();
            int what = from(0, 3);
            same("fate(" + ticket + ", " + what + ")", line.fate(ticket, what), reference.fate(ticket, what));
        }
        int station = aStation();
        int ticks = from(0, 300);
        same("slotIn(" + station + ", " + ticks + ")", line.slotIn(station, ticks), reference.slotIn(station, ticks));
        for (int i = 0; i < 4; i++) {
            int from = aStation();
            int to = random.nextInt(5) == 0 ? aStation() : from / 10 * 10 + random.nextInt(6);
            same("lapsNeeded(" + from + ", " + to + ")", line.lapsNeeded(from, to), reference.lapsNeeded(from, to));
        }
    }
}
