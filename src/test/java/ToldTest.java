/** Promises 21 to 28, 32 and 33: what is told of lines, stations, tickets, orders, the log and all. */
public final class ToldTest {
    private static final int UNKNOWN = MercuryLine.UNKNOWN;
    private static final int BAD_VALUE = MercuryLine.BAD_VALUE;
    private static final int NONE = MercuryLine.NONE;
    private static final int[] FAR = {Integer.MIN_VALUE, -1000, -1, 20, 100, Integer.MAX_VALUE};

    public static void main(String[] args) {
        line();
        slot();
        station();
        waiting();
        calls();
        ticket();
        ordered();
        price();
        event();
        count();
        Check.end("ToldTest");
    }

    private static void told(String name, int got, int want) {
        Check.due(name, got, want);
    }

    private static void line() {
        MercuryLine x = Setup.twoLines();
        x.setHeat(1, 6);
        x.book(1, 1, 11, 1, 1);
        x.book(2, 1, 10, 11, 1);
        x.tick(3);
        int[] due = {8, 2, 108, 106, 2, 2, 0, 1, 0};
        for (int what = 0; what < due.length; what++) {
            told("21: line(1, " + what + ")", x.line(1, what), due[what]);
        }
        x.setHeat(1, -10);
        x.tick(1);
        told("21: phase in a tick between", x.line(1, 1), 3);
        told("21: drift between", x.line(1, 2), 98);
        x.tick(1);
        told("21: phase after a skip", x.line(1, 1), 5);
        told("21: drift after a skip", x.line(1, 2), 98);
        told("21: skips", x.line(1, 8), 1);
        told("21: heat", x.line(1, 3), 90);
        told("21: what 9", x.line(0, 9), BAD_VALUE);
        told("21: what -1", x.line(0, -1), BAD_VALUE);
        told("21: line 2", x.line(2, 0), UNKNOWN);
        told("21: line ahead of what", x.line(-1, 9), UNKNOWN);
        MercuryLine y = Setup.twoLines();
        y.book(1, 1, 11, 1, 1);
        y.tick(5);
        told("21: the hall of line 0", y.line(0, 6), 1);
        told("21: the hall of line 1", y.line(1, 6), 0);
        told("21: riders", y.line(1, 5), 0);
    }

    private static void slot() {
        MercuryLine x = Setup.twoLines();
        x.book(1, 1, 11, 10, 1);
        x.book(2, 1, 10, 11, 1);
        x.tick(1);
        told("22: slot 4", x.slot(1, 4), 0);
        told("22: slot 0", x.slot(1, 0), 1);
        told("22: an empty one", x.slot(1, 1), NONE);
        told("22: the other line", x.slot(0, 0), NONE);
        told("22: slot 7", x.slot(1, 7), NONE);
        told("22: slot 8", x.slot(1, 8), BAD_VALUE);
        told("22: slot -1", x.slot(1, -1), BAD_VALUE);
        told("22: line 2", x.slot(2, -1), UNKNOWN);
        told("22: line -1", x.slot(-1, 0), UNKNOWN);
        x.build(0, 10);
        told("22: slot 9 of ten", x.slot(0, 9), NONE);
        told("22: slot 10 of ten", x.slot(0, 10), BAD_VALUE);
        for (int far : FAR) {
            told("22: slot " + far, x.slot(0, far), BAD_VALUE);
        }
    }

    private static void station() {
        MercuryLine x = Setup.twoLines();
        x.tick(5);
        int[] due = {4, 1, 0, 0, 0, 0, 0, 0, NONE};
        for (int what = 0; what < due.length; what++) {
            told("23: station(1, " + what + ")", x.station(1, what), due[what]);
        }
        x.book(1, 1, 1, 0, 1);
        x.book(2, 3, 1, 0, 1);
        x.call(1, 9);
        told("23: two wait", x.station(1, 2), 2);
        told("23: a call", x.station(1, 7), 1);
        told("23: the one of class 3 is next", x.station(1, 8), 1);
        x.tick(1);
        told("23: one waits", x.station(1, 2), 1);
        told("23: one has boarded", x.station(1, 3), 1);
        x.tick(4);
        told("23: arrived", x.station(0, 4), 1);
        told("23: not there", x.station(1, 4), 0);
        told("23: what 9", x.station(1, 9), BAD_VALUE);
        told("23: what -1", x.station(1, -1), BAD_VALUE);
        int[] none = {2, 5, 6, 9, 12, 19};
        for (int station : none) {
            told("23: station " + station, x.station(station, 9), UNKNOWN);
        }
        for (int far : FAR) {
            told("23: station " + far, x.station(far, 0), UNKNOWN);
            told("23: what " + far, x.station(0, far), BAD_VALUE);
        }
        theHallIsToldOtherwise();
    }

    private static void theHallIsToldOtherwise() {
        MercuryLine x = Setup.twoLines();
        x.book(1, 1, 11, 1, 1);
        x.tick(5);
        told("23: who is in the hall does not wait at the station", x.station(0, 2), 0);
        told("23: but is next there", x.station(0, 8), 0);
        told("23: at the junction alone", x.station(1, 8), NONE);
        x.tick(1);
        told("23: boarded from the hall", x.station(0, 3), 1);
    }

    private static void waiting() {
        MercuryLine x = Setup.twoLines();
        int[] kinds = {1, 2, 3, 2, 1, 3};
        for (int kind : kinds) {
            x.book(1, kind, 1, 0, 1);
        }
        x.book(1, 3, 0, 1, 1);
        int[] turns = {2, 5, 1, 3, 0, 4};
        for (int place = 0; place < turns.length; place++) {
            told("24: place " + place, x.waiting(1, place), turns[place]);
        }
        told("24: no more", x.waiting(1, 6), NONE);
        told("24: far behind", x.waiting(1, Integer.MAX_VALUE), NONE);
        told("24: place -1", x.waiting(1, -1), BAD_VALUE);
        told("24: nobody", x.waiting(11, 0), NONE);
        told("24: no station", x.waiting(2, -1), UNKNOWN);
        for (int far : FAR) {
            told("24: station " + far, x.waiting(far, 0), UNKNOWN);
        }
        MercuryLine y = Setup.twoLines();
        y.book(1, 1, 11, 1, 1);
        y.tick(5);
        told("24: the hall not", y.waiting(0, 0), NONE);
    }

    private static void calls() {
        MercuryLine x = Setup.twoLines();
        told("25: none", x.calls(0, 0), NONE);
        x.call(0, 5);
        x.call(0, 0);
        told("25: the first", x.calls(0, 0), 5);
        told("25: the second", x.calls(0, 1), 0);
        told("25: no third", x.calls(0, 2), NONE);
        told("25: far behind", x.calls(0, Integer.MAX_VALUE), NONE);
        told("25: place -1", x.calls(0, -1), BAD_VALUE);
        told("25: no station", x.calls(2, -1), UNKNOWN);
        told("25: the other line", x.calls(10, 0), NONE);
        for (int far : FAR) {
            told("25: station " + far, x.calls(far, 0), UNKNOWN);
        }
    }

    private static void ticket() {
        MercuryLine x = Setup.twoLines();
        x.tick(2);
        x.book(77, 2, 10, 11, 4);
        int[] waits = {77, 2, 10, 11, 4, 80, 0, NONE, NONE, 2, NONE, NONE, NONE, NONE};
        for (int what = 0; what < waits.length; what++) {
            told("26: it waits: " + what, x.ticket(0, what), waits[what]);
        }
        x.tick(1);
        int[] rides = {77, 2, 10, 11, 4, 80, 1, 1, 2, 2, 2, NONE, NONE, NONE};
        for (int what = 0; what < rides.length; what++) {
            told("26: it rides: " + what, x.ticket(0, what), rides[what]);
        }
        x.tick(4);
        int[] arrived = {77, 2, 10, 11, 4, 80, 3, NONE, NONE, 2, 2, 6, 11, NONE};
        for (int what = 0; what < arrived.length; what++) {
            told("26: it has arrived: " + what, x.ticket(0, what), arrived[what]);
        }
        told("26: what 14", x.ticket(0, 14), BAD_VALUE);
        told("26: what -1", x.ticket(0, -1), BAD_VALUE);
        told("26: ticket ahead of what", x.ticket(1, 14), UNKNOWN);
        for (int far : FAR) {
            told("26: ticket " + far, x.ticket(far, 0), UNKNOWN);
            told("26: what " + far, x.ticket(0, far), BAD_VALUE);
        }
    }

    private static void ordered() {
        MercuryLine x = Setup.twoLines();
        x.book(9, 1, 10, 1, 4);
        x.tick(3);
        x.order(0, 4);
        int[] due = {4, 3, 0, 0, 0, 9, 10};
        for (int what = 0; what < due.length; what++) {
            told("27: ordered(0, " + what + ")", x.ordered(0, what), due[what]);
        }
        x.tick(5);
        told("27: booked in the ticks 3 and 7", x.ordered(0, 2), 2);
        x.endOrder(0);
        told("27: ended", x.ordered(0, 4), 1);
        told("27: what 7", x.ordered(0, 7), BAD_VALUE);
        told("27: what -1", x.ordered(0, -1), BAD_VALUE);
        told("27: order ahead of what", x.ordered(1, 7), UNKNOWN);
        for (int far : FAR) {
            told("27: order " + far, x.ordered(far, 0), UNKNOWN);
            told("27: what " + far, x.ordered(0, far), BAD_VALUE);
        }
    }

    private static void price() {
        MercuryLine x = new MercuryLine();
        told("28: class 1", x.price(1, 4), 40);
        told("28: class 2", x.price(2, 4), 80);
        told("28: class 3", x.price(3, 4), 145);
        x.setFare(99);
        told("28: class 1 with the fare 99", x.price(1, 9), 891);
        told("28: class 2 with the fare 99", x.price(2, 1), 198);
        told("28: class 3 with the fare 99", x.price(3, 9), 2698);
        told("28: class 0", x.price(0, 1), BAD_VALUE);
        told("28: class 4", x.price(4, 1), BAD_VALUE);
        told("28: 0 laps", x.price(1, 0), BAD_VALUE);
        told("28: 10 laps", x.price(1, 10), BAD_VALUE);
        for (int far : FAR) {
            told("28: class " + far, x.price(far, 1), BAD_VALUE);
            told("28: laps " + far, x.price(1, far), BAD_VALUE);
        }
    }

    private static void event() {
        MercuryLine x = Setup.twoLines();
        told("32: none", x.event(0, 0), NONE);
        told("32: back -1", x.event(-1, 0), BAD_VALUE);
        told("32: what 5", x.event(0, 5), BAD_VALUE);
        told("32: what -1", x.event(0, -1), BAD_VALUE);
        told("32: what 5, far back", x.event(Integer.MAX_VALUE, 5), BAD_VALUE);
        x.setHeat(1, 10);
        x.tick(12);
        told("32: the twelfth", x.event(11, 4), 0);
        x.tick(1);
        for (int back = 0; back < 12; back++) {
            told("32: kind", x.event(back, 0), 6);
            told("32: ticket", x.event(back, 1), NONE);
            told("32: line", x.event(back, 2), 1);
            told("32: station", x.event(back, 3), NONE);
            told("32: tick", x.event(back, 4), 12 - back);
        }
        told("32: no more than 12 are known", x.event(12, 0), NONE);
        told("32: far back", x.event(Integer.MAX_VALUE, 0), NONE);
        x.undo();
        told("32: undo brings the log back", x.event(0, 4), 11);
        for (int far : FAR) {
            told("32: what " + far, x.event(0, far), BAD_VALUE);
        }
    }

    private static void count() {
        MercuryLine x = Setup.twoLines();
        x.setFare(7);
        x.setPatience(9);
        x.book(5, 1, 1, 0, 3);
        x.book(12, 1, 1, 0, 1);
        x.book(40, 1, 1, 11, 1);
        x.book(50, 3, 11, 1, 1);
        x.book(60, 2, 10, 11, 1);
        x.book(70, 2, 0, 1, 1);
        x.cancel(5);
        x.order(0, 50);
        x.call(0, 40);
        x.type('x');
        x.tick(5);
        int[] due = {5, 7, 0, 3, 1, 2, 0, 0, 0, 0, 1, 130, 21 + 14, 14, 81, 7, 9, 1, 5 ^ 60, 4, 1};
        for (int what = 0; what < due.length; what++) {
            told("33: count(" + what + ")", x.count(what), due[what]);
        }
        x.tick(2);
        told("33: called off", x.count(6), 1);
        told("33: arrived then", x.count(5), 3);
        told("33: earned then", x.count(12), 35 + 7);
        told("33: refunded then", x.count(13), 14 + 7);
        told("33: held then", x.count(14), 46 + 21);
        told("33: what is called off has not arrived", x.count(18), 5 ^ 60 ^ 12);
        told("33: what 21", x.count(21), BAD_VALUE);
        told("33: what -1", x.count(-1), BAD_VALUE);
        for (int far : FAR) {
            if (far != 20) {
                told("33: what " + far, x.count(far), BAD_VALUE);
            }
        }
        aStateForEachEnd();
    }

    private static void aStateForEachEnd() {
        MercuryLine x = Setup.twoLines();
        x.setPatience(0);
        x.book(1, 1, 0, 1, 9);
        told("33: waits", x.count(2), 1);
        x.tick(1);
        told("33: rides", x.count(3), 1);
        told("33: waits no more", x.count(2), 0);
        x.setHeat(0, 10);
        x.tick(1);
        x.drain(0);
        told("33: drained", x.count(9), 1);
        x.book(2, 1, 0, 1, 1);
        x.tick(2);
        x.tick(1);
        told("33: laps used", x.count(8), 1);
        x.book(3, 1, 0, 1, 9);
        x.tick(1);
        x.book(4, 3, 0, 1, 9);
        x.tick(1);
        told("33: shoved out", x.count(7), 1);
        x.cancel(3);
        told("33: cancelled", x.count(10), 1);
        told("33: all in all", x.count(1), 4);
    }
}
