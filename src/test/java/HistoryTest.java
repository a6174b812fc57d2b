import java.util.List;

/** Promises 18 to 20: undo and the snapshot. */
public final class HistoryTest {
    private static final int NONE = MercuryLine.NONE;

    public static void main(String[] args) {
        undo();
        everyActIsRecorded();
        whatIsNoActIsNotRecorded();
        keepAndRestore();
        aStateIsEverything();
        anotherStateInItsPlace();
        Check.end("HistoryTest");
    }

    private static void undo() {
        MercuryLine x = new MercuryLine();
        Check.due("18: empty", x.undo(), NONE);
        for (int fare = 1; fare <= 6; fare++) {
            x.setFare(fare);
            Check.due("18: states", x.count(19), Math.min(fare, 4));
        }
        for (int left = 3; left >= 0; left--) {
            Check.due("18: states that are left", x.undo(), left);
            Check.due("18: fare", x.count(15), left + 2);
        }
        Check.due("18: no more", x.undo(), NONE);
        Check.due("18: the oldest was dropped", x.count(15), 2);
        x.setFare(50);
        Check.due("18: recorded again", x.count(19), 1);
        Check.due("18: back", x.undo(), 0);
        Check.due("18: fare then", x.count(15), 2);
    }

    private static void everyActIsRecorded() {
        MercuryLine x = Setup.oneLine(8, 0, 3);
        x.undo();
        x.undo();
        String ticket = "1,1,00>01*1";
        for (int i = 0; i < ticket.length(); i++) {
            x.type(ticket.charAt(i));
        }
        x.keep();
        for (int act = 0; act < 15; act++) {
            int answer = act(x, act);
            Check.due("18: act " + act + " is done", answer >= 0);
            Check.due("18: act " + act + " is recorded", x.count(19), Math.min(act + 1, 4));
        }
    }

    private static int act(MercuryLine x, int act) {
        switch (act) {
            case 0: return x.build(0, 9);
            case 1: return x.addStation(0, 0);
            case 2: return x.addStation(0, 3);
            case 3: return x.setHeat(0, 1);
            case 4: return x.setFare(11);
            case 5: return x.setPatience(4);
            case 6: return x.book(1, 1, 0, 1, 9);
            case 7: return x.tick(1);
            case 8: return x.drain(0);
            case 9: return x.readTickets();
            case 10: return x.cancel(1);
            case 11: return x.call(0, 5);
            case 12: return x.callBack(0);
            case 13: return x.order(0, 5);
            case 14: return x.endOrder(0);
            default: return x.restore();
        }
    }

    private static void whatIsNoActIsNotRecorded() {
        MercuryLine x = Setup.oneLine(8, 0, 3);
        x.book(1, 1, 0, 1, 1);
        x.fate(0, 0);
        x.slotIn(0, 7);
        x.lapsNeeded(0, 1);
        x.price(1, 1);
        x.type('1');
        x.clearText();
        x.keep();
        x.readTickets();
        Check.due("18: three acts", x.count(19), 3);
        x.undo();
        Check.due("18: the last act", x.count(1), 0);
    }

    private static void keepAndRestore() {
        MercuryLine x = Setup.oneLine(8, 0, 3);
        Check.due("20: no snapshot", x.restore(), NONE);
        Check.due("20: nothing recorded", x.count(19), 2);
        x.book(7, 1, 0, 1, 1);
        x.tick(2);
        Check.due("19: keep", x.keep(), 2);
        x.tick(60);
        x.setFare(70);
        Check.due("20: restore", x.restore(), 2);
        Check.due("20: the ticket rides", x.ticket(0, 6), 1);
        Check.due("20: fare", x.count(15), 10);
        Check.due("20: states", x.count(19), 4);
        Check.due("18: restore is an act", x.undo(), 3);
        Check.due("18: fare", x.count(15), 70);
        Check.due("18: ticks", x.count(0), 62);
        Check.due("20: the snapshot stays", x.restore(), 2);
        x.tick(4);
        Check.due("20: and is no part of the state", x.ticket(0, 6), 3);
        Check.due("20: again", x.restore(), 2);
        Check.due("20: as it was", x.ticket(0, 6), 1);
        x.tick(1);
        Check.due("19: another in its place", x.keep(), 3);
        x.tick(9);
        x.undo();
        Check.due("20: the latest one", x.restore(), 3);
        x.undo();
        x.undo();
        x.undo();
        x.undo();
        Check.due("18: undo leaves the snapshot", x.restore(), 3);
    }

    /** A long way there, and back again in one step: all that is told must be as it was. */
    private static void aStateIsEverything() {
        List<String> before = Told.state(HistoryTest::underWay);
        same("20: after restore", before, Told.state(HistoryTest::restored));
        same("18: after undo", before, Told.state(HistoryTest::restoredAndUndone));
    }

    private static MercuryLine underWay() {
        MercuryLine x = Setup.oneLine(8, 0, 3);
        x.addStation(1, 0);
        x.addStation(1, 5);
        x.book(1, 1, 0, 11, 3);
        x.book(2, 2, 11, 1, 3);
        x.call(1, 9);
        x.order(0, 7);
        x.setHeat(1, 7);
        x.tick(9);
        return x;
    }

    private static MercuryLine restored() {
        MercuryLine x = underWay();
        x.keep();
        x.setHeat(0, -9);
        x.setPatience(0);
        x.book(3, 3, 1, 10, 2);
        x.call(1, 2);
        x.endOrder(0);
        x.tick(60);
        x.drain(0);
        x.build(1, 20);
        x.addStation(1, 19);
        x.restore();
        return x;
    }

    private static MercuryLine restoredAndUndone() {
        MercuryLine x = restored();
        x.tick(60);
        x.undo();
        return x;
    }

    /** Other tickets, orders, stations and events under the same numbers, and back to the first. */
    private static void anotherStateInItsPlace() {
        MercuryLine x = manyThings();
        Check.due("18: someone was shoved out", x.count(7) > 0);
        Check.due("18: someone was called off", x.count(6) > 0);
        Check.due("18: the order was skipped", x.ordered(0, 3) > 0);
        otherThings(x);
        Check.due("18: all is otherwise", x.count(1), 1);
        for (int left = 3; left >= 0; left--) {
            Check.due("18: back", x.undo(), left);
        }
        same("18: as it was", Told.state(HistoryTest::manyThings), Told.state(HistoryTest::manyThingsAgain));
        same("18: once more the same way", Told.state(() -> fewThings(new MercuryLine())),
            Told.state(HistoryTest::fewThingsAgain));
    }

    private static MercuryLine manyThings() {
        MercuryLine x = new MercuryLine();
        x.build(0, 4);
        x.addStation(0, 0);
        x.keep();
        x.setPatience(0);
        x.addStation(0, 3);
        x.addStation(0, 2);
        x.book(1, 1, 0, 2, 5);
        x.book(2, 2, 0, 2, 6);
        x.tick(1);
        x.book(3, 3, 1, 0, 7);
        x.call(1, 1);
        x.call(0, 3);
        x.call(2, 2);
        x.order(0, 1);
        x.tick(9);
        x.setHeat(0, 10);
        x.tick(60);
        x.setFare(3);
        x.drain(0);
        x.endOrder(0);
        return x;
    }

    /** Four acts, as many as undo() takes back. */
    private static void otherThings(MercuryLine x) {
        x.restore();
        x.addStation(0, 1);
        x.book(77, 2, 1, 0, 9);
        x.tick(20);
    }

    private static MercuryLine manyThingsAgain() {
        MercuryLine x = manyThings();
        otherThings(x);
        undoFourTimes(x);
        return x;
    }

    private static MercuryLine fewThings(MercuryLine x) {
        x.addStation(0, 0);
        x.addStation(0, 3);
        return bookAndOrder(x);
    }

    private static MercuryLine bookAndOrder(MercuryLine x) {
        x.book(1, 1, 0, 1, 1);
        x.order(0, 5);
        x.setFare(20);
        x.tick(1);
        return x;
    }

    private static MercuryLine fewThingsAgain() {
        MercuryLine x = fewThings(new MercuryLine());
        undoFourTimes(x);
        x.book(2, 2, 1, 0, 2);
        x.tick(3);
        x.order(0, 7);
        x.undo();
        x.undo();
        x.undo();
        return bookAndOrder(x);
    }

    private static void undoFourTimes(MercuryLine x) {
        for (int undone = 0; undone < 4; undone++) {
            x.undo();
        }
    }

    private static void same(String when, List<String> before, List<String> after) {
        String difference = Told.difference(before, after);
        Check.due(when + " " + difference, difference.isEmpty());
    }
}
