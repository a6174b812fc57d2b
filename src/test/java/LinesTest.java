/** Promises 1 to 7: a new object, and what changes lines, fare and patience. */
public final class LinesTest {
    private static final int UNKNOWN = MercuryLine.UNKNOWN;
    private static final int BAD_VALUE = MercuryLine.BAD_VALUE;
    private static final int FULL = MercuryLine.FULL;
    private static final int NOT_POSSIBLE = MercuryLine.NOT_POSSIBLE;
    private static final int NONE = MercuryLine.NONE;

    public static void main(String[] args) {
        aNewObject();
        build();
        addStation();
        setHeat();
        setFare();
        setPatience();
        drain();
        Check.end("LinesTest");
    }

    private static void aNewObject() {
        MercuryLine x = new MercuryLine();
        int[] fresh = {8, 0, 100, 100, 0, 0, 0, 0, 0};
        for (int line = 0; line < 2; line++) {
            for (int what = 0; what < fresh.length; what++) {
                Check.due("1: line(" + line + ", " + what + ")", x.line(line, what), fresh[what]);
            }
            for (int slot = 0; slot < 8; slot++) {
                Check.due("1: slot", x.slot(line, slot), NONE);
            }
            Check.due("1: slot behind the last", x.slot(line, 8), BAD_VALUE);
        }
        for (int what = 0; what <= 20; what++) {
            int due = what == 15 ? 10 : what == 16 ? 3 : 0;
            Check.due("1: count(" + what + ")", x.count(what), due);
        }
        Check.due("1: station(0, 0)", x.station(0, 0), UNKNOWN);
        Check.due("1: station(10, 0)", x.station(10, 0), UNKNOWN);
        Check.due("1: ticket(0, 0)", x.ticket(0, 0), UNKNOWN);
        Check.due("1: ordered(0, 0)", x.ordered(0, 0), UNKNOWN);
        Check.due("1: event(0, 0)", x.event(0, 0), NONE);
        Check.due("1: undo()", x.undo(), NONE);
        Check.due("1: restore()", x.restore(), NONE);
    }

    private static void build() {
        MercuryLine x = new MercuryLine();
        Check.due("2: no line 2", x.build(2, 5), UNKNOWN);
        Check.due("2: no line -1", x.build(-1, 99), UNKNOWN);
        Check.due("2: 1 slot", x.build(0, 1), BAD_VALUE);
        Check.due("2: 25 slots", x.build(0, 25), BAD_VALUE);
        Check.due("2: as many", x.build(0, 8), NONE);
        Check.due("2: no error recorded", x.count(19), 0);
        Check.due("2: 24 slots", x.build(0, 24), 8);
        Check.due("2: recorded", x.count(19), 1);
        Check.due("2: the other line stays", x.line(1, 0), 8);
        Check.due("2: 2 slots", x.build(0, 2), 24);
        Check.due("2: undo", x.undo(), 1);
        Check.due("2: undone", x.line(0, 0), 24);
        x.addStation(0, 5);
        x.setHeat(0, 4);
        x.tick(2);
        Check.due("2: phase before", x.line(0, 1), 2);
        Check.due("2: drift before", x.line(0, 2), 108);
        Check.due("2: an offset is not less", x.build(0, 5), NOT_POSSIBLE);
        Check.due("2: an offset is just less", x.build(0, 6), 24);
        Check.due("2: phase", x.line(0, 1), 0);
        Check.due("2: drift", x.line(0, 2), 100);
        Check.due("2: heat stays", x.line(0, 3), 104);
        x.addStation(0, 0);
        x.book(1, 1, 0, 1, 9);
        Check.due("2: one only waits", x.build(0, 7), 6);
        x.tick(1);
        Check.due("2: one rides", x.build(0, 6), NOT_POSSIBLE);
        Check.due("2: one rides, as many", x.build(0, 7), NOT_POSSIBLE);
        Check.due("2: value ahead of what is possible", x.build(0, 25), BAD_VALUE);
        x.drain(0);
        Check.due("2: drained", x.build(0, 24), 7);
    }

    private static void addStation() {
        MercuryLine x = new MercuryLine();
        Check.due("3: no line 2", x.addStation(2, 0), UNKNOWN);
        Check.due("3: no line -1", x.addStation(-1, -1), UNKNOWN);
        Check.due("3: offset -1", x.addStation(0, -1), BAD_VALUE);
        Check.due("3: offset 8", x.addStation(0, 8), BAD_VALUE);
        Check.due("3: offset 7", x.addStation(0, 7), 0);
        Check.due("3: recorded", x.count(19), 1);
        Check.due("3: offset 7 again", x.addStation(0, 7), NOT_POSSIBLE);
        Check.due("3: not recorded", x.count(19), 1);
        Check.due("3: the other line", x.addStation(1, 7), 0);
        for (int i = 1; i < 6; i++) {
            Check.due("3: station " + i, x.addStation(0, i - 1), i);
        }
        Check.due("3: a seventh", x.addStation(0, 6), FULL);
        Check.due("3: a seventh where one is", x.addStation(0, 7), NOT_POSSIBLE);
        Check.due("3: a seventh out of range", x.addStation(0, 8), BAD_VALUE);
        Check.due("3: stations", x.line(0, 4), 6);
        Check.due("3: offset of the first", x.station(0, 0), 7);
        Check.due("3: offset of the last", x.station(5, 0), 4);
        Check.due("3: undo", x.undo(), 3);
        Check.due("3: station 5 is gone", x.station(5, 0), UNKNOWN);
        x.addStation(0, 6);
        for (int what = 2; what <= 7; what++) {
            Check.due("3: a new station is empty", x.station(5, what), 0);
        }
    }

    private static void setHeat() {
        MercuryLine x = new MercuryLine();
        Check.due("4: no line", x.setHeat(2, 11), UNKNOWN);
        Check.due("4: 11", x.setHeat(0, 11), BAD_VALUE);
        Check.due("4: -11", x.setHeat(0, -11), BAD_VALUE);
        Check.due("4: 0 as before", x.setHeat(0, 0), NONE);
        Check.due("4: not recorded", x.count(19), 0);
        Check.due("4: 10", x.setHeat(0, 10), 10);
        Check.due("4: -10", x.setHeat(0, -10), 20);
        Check.due("4: -3", x.setHeat(0, -3), 7);
        Check.due("4: told", x.line(0, 3), 97);
        Check.due("4: the other line", x.line(1, 3), 100);
        Check.due("4: recorded", x.count(19), 3);
        x.undo();
        Check.due("4: undone", x.line(0, 3), 90);
    }

    private static void setFare() {
        MercuryLine x = new MercuryLine();
        x.addStation(0, 0);
        x.addStation(0, 1);
        x.book(1, 1, 0, 1, 2);
        Check.due("5: 0", x.setFare(0), BAD_VALUE);
        Check.due("5: 100", x.setFare(100), BAD_VALUE);
        Check.due("5: 10 as before", x.setFare(10), NONE);
        Check.due("5: not recorded", x.count(19), 3);
        Check.due("5: 99", x.setFare(99), 10);
        Check.due("5: 1", x.setFare(1), 99);
        Check.due("5: told", x.count(15), 1);
        Check.due("5: a ticket keeps what was paid", x.ticket(0, 5), 20);
        Check.due("5: a new one costs less", x.book(1, 1, 0, 1, 2), 1);
        Check.due("5: what it costs", x.ticket(1, 5), 2);
        x.undo();
        x.undo();
        Check.due("5: undone", x.count(15), 99);
    }

    private static void setPatience() {
        MercuryLine x = new MercuryLine();
        Check.due("6: -1", x.setPatience(-1), BAD_VALUE);
        Check.due("6: 51", x.setPatience(51), BAD_VALUE);
        Check.due("6: 3 as before", x.setPatience(3), NONE);
        Check.due("6: not recorded", x.count(19), 0);
        Check.due("6: 50", x.setPatience(50), 3);
        Check.due("6: 0", x.setPatience(0), 50);
        Check.due("6: told", x.count(16), 0);
        x.undo();
        Check.due("6: undone", x.count(16), 50);
    }

    private static void drain() {
        MercuryLine x = new MercuryLine();
        x.build(0, 4);
        x.addStation(0, 3);
        x.addStation(0, 1);
        Check.due("7: no line", x.drain(2), UNKNOWN);
        Check.due("7: nobody", x.drain(0), NONE);
        x.book(5, 1, 0, 1, 9);
        x.book(6, 2, 1, 0, 9);
        Check.due("7: they only wait", x.drain(0), NONE);
        x.tick(1);
        Check.due("7: ticket 0 is in slot 3", x.slot(0, 3), 0);
        Check.due("7: ticket 1 is in slot 1", x.slot(0, 1), 1);
        Check.due("7: nobody on the other line", x.drain(1), NONE);
        int recorded = x.count(19);
        Check.due("7: not recorded", recorded, 4);
        Check.due("7: both are put out", x.drain(0), 2);
        for (int ticket = 0; ticket < 2; ticket++) {
            Check.due("7: state", x.ticket(ticket, 6), 7);
            Check.due("7: line", x.ticket(ticket, 7), NONE);
            Check.due("7: slot", x.ticket(ticket, 8), NONE);
            Check.due("7: tick of the end", x.ticket(ticket, 11), 1);
            Check.due("7: station of the end", x.ticket(ticket, 12), NONE);
        }
        Check.due("7: refunded", x.count(13), 90 + 180);
        Check.due("7: held", x.count(14), 0);
        Check.due("7: by their slots: the last event", x.event(0, 1), 0);
        Check.due("7: by their slots: the one before", x.event(1, 1), 1);
        Check.due("7: kind", x.event(0, 0), 8);
        Check.due("7: line of the event", x.event(0, 2), 0);
        Check.due("7: no station", x.event(0, 3), NONE);
        Check.due("7: tick of the event", x.event(0, 4), 1);
        Check.due("7: the slots are empty", x.line(0, 5), 0);
        Check.due("7: again", x.drain(0), NONE);
        x.undo();
        Check.due("7: undone", x.slot(0, 3), 0);
    }
}
