/** Promises 29 to 31: what will become of tickets, slots and laps. */
public final class ForecastsTest {
    private static final int UNKNOWN = MercuryLine.UNKNOWN;
    private static final int BAD_VALUE = MercuryLine.BAD_VALUE;
    private static final int NOT_POSSIBLE = MercuryLine.NOT_POSSIBLE;
    private static final int NONE = MercuryLine.NONE;

    public static void main(String[] args) {
        fateOfAnArrival();
        fateOfTheOthers();
        stuckForEver();
        atTheVeryLastTick();
        fateWithOrders();
        fateComesTrue();
        slotIn();
        lapsNeeded();
        lapsThatAreTooMany();
        lapsWithinThreeHundredTicks();
        Check.end("ForecastsTest");
    }

    private static void fate(String why, MercuryLine x, int ticket, int... due) {
        for (int what = 0; what < due.length; what++) {
            Check.due("29: " + why + ", " + what, x.fate(ticket, what), due[what]);
        }
    }

    private static void fateOfAnArrival() {
        MercuryLine x = Setup.oneLine(8, 0, 3);
        Check.due("29: no ticket", x.fate(0, 0), UNKNOWN);
        x.book(7, 1, 0, 1, 2);
        Check.due("29: no ticket -1", x.fate(-1, 4), UNKNOWN);
        Check.due("29: what 4", x.fate(0, 4), BAD_VALUE);
        Check.due("29: what -1", x.fate(0, -1), BAD_VALUE);
        int recorded = x.count(19);
        fate("it waits", x, 0, 3, 6, 1, 2);
        Check.due("29: no tick has passed", x.count(0), 0);
        Check.due("29: no event", x.event(0, 0), NONE);
        Check.due("29: no act", x.count(19), recorded);
        Check.due("29: it waits still", x.ticket(0, 6), 0);
        x.tick(5);
        fate("in the next tick", x, 0, 3, 1, 1, 2);
        x.tick(1);
        Check.due("29: it has ended", x.fate(0, 0), NOT_POSSIBLE);
        Check.due("29: what ahead of that", x.fate(0, 4), BAD_VALUE);
    }

    private static void fateOfTheOthers() {
        MercuryLine x = Setup.oneLine(4, 0, 1, 2);
        x.book(1, 1, 0, 1, 3);
        x.setHeat(0, 10);
        fate("laps used in pauses", x, 0, 6, 4, 0, 0);
        x.call(0, 1);
        fate("called off", x, 0, 4, 2, 0, 3);
        x.callBack(0);
        x.book(2, 1, 0, 2, 9);
        x.book(3, 2, 0, 2, 9);
        x.tick(1);
        Check.due("29: the one of class 2 rides", x.ticket(2, 6), 1);
        x.book(4, 3, 0, 1, 9);
        fate("shoved out when 3 ticks are waited", x, 2, 5, 4, 0, 5);
    }

    /** A rider that pauses between stations never ends, nor does who waits for its slot. */
    private static void stuckForEver() {
        MercuryLine x = Setup.oneLine(8, 0, 3);
        x.book(1, 1, 0, 1, 1);
        x.tick(1);
        x.setHeat(0, 10);
        fate("it stands between stations", x, 0, NONE, NONE, NONE, NONE);
        x.setHeat(0, 9);
        Check.due("29: it creeps on", x.fate(0, 0), 3);
    }

    /**
     * Riders of class 1 with 9 laps at a paused junction take nine ticks each behind the one that
     * they board in, in which the one before is put out: the one behind n others ends in tick
     * 9 * (n + 1), which is the 9 * (n + 1) + 1st tick from the first.
     */
    private static void atTheVeryLastTick() {
        MercuryLine x = Setup.oneLine(8, 0, 3);
        x.setHeat(0, 10);
        for (int i = 0; i < 34; i++) {
            x.book(1, 1, 0, 1, 9);
        }
        fate("the first", x, 0, 6, 10, 0, 0);
        fate("behind 32 others", x, 32, 6, 298, 0, 0);
        fate("behind 33 others", x, 33, NONE, NONE, NONE, NONE);
        x.tick(6);
        Check.due("29: in the tick 301", x.fate(33, 1), NONE);
        x.tick(1);
        fate("in the tick 300", x, 33, 6, 300, 0, 0);
    }

    private static void fateWithOrders() {
        MercuryLine x = Setup.oneLine(4, 0, 2);
        x.setHeat(0, 10);
        x.setPatience(1);
        x.book(1, 1, 0, 1, 9);
        x.book(2, 3, 0, 1, 9);
        x.cancel(1);
        fate("alone", x, 0, 6, 10, 0, 0);
        x.order(1, 50);
        x.tick(1);
        Check.due("29: the order's word rides", x.ticket(2, 6), 1);
        x.undo();
        x.endOrder(0);
        x.tick(1);
        x.order(1, 50);
        fate("an order books one that shoves it out", x, 0, 5, 2, 0, 7);
        Check.due("29: nothing is booked by that", x.count(1), 2);
    }

    private static void fateComesTrue() {
        MercuryLine x = Setup.oneLine(6, 0, 2, 5);
        x.build(1, 9);
        x.addStation(1, 4);
        x.addStation(1, 8);
        x.setHeat(0, 3);
        x.setHeat(1, -4);
        x.book(1, 1, 1, 11, 3);
        x.book(2, 2, 11, 2, 2);
        x.book(3, 3, 0, 10, 4);
        x.call(10, 1);
        for (int ticket = 0; ticket < 3; ticket++) {
            int[] foretold = new int[4];
            for (int what = 0; what < 4; what++) {
                foretold[what] = x.fate(ticket, what);
            }
            Check.due("29: an end is foretold", foretold[1] > 0 && foretold[1] <= 60);
            x.keep();
            x.tick(foretold[1]);
            Check.due("29: state", x.ticket(ticket, 6), foretold[0]);
            Check.due("29: tick", x.ticket(ticket, 11), foretold[1] - 1);
            Check.due("29: station", x.ticket(ticket, 12), foretold[2]);
            Check.due("29: laps", x.ticket(ticket, 4), foretold[3]);
            x.restore();
        }
    }

    private static void slotIn() {
        MercuryLine x = Setup.oneLine(8, 0, 3);
        x.addStation(1, 1);
        Check.due("30: now", x.slotIn(1, 0), 3);
        Check.due("30: in 4 ticks", x.slotIn(1, 4), 7);
        Check.due("30: in 5 ticks", x.slotIn(1, 5), 0);
        Check.due("30: in 300 ticks", x.slotIn(1, 300), 7);
        Check.due("30: 301 ticks", x.slotIn(1, 301), BAD_VALUE);
        Check.due("30: -1 ticks", x.slotIn(1, -1), BAD_VALUE);
        Check.due("30: no station", x.slotIn(2, -1), UNKNOWN);
        Check.due("30: no station -1", x.slotIn(-1, 0), UNKNOWN);
        x.setHeat(0, 5);
        int[] due = {0, 1, 1, 2, 2, 3};
        for (int ticks = 0; ticks < due.length; ticks++) {
            Check.due("30: with heat 5 in " + ticks, x.slotIn(0, ticks), due[ticks]);
        }
        x.tick(1);
        Check.due("30: with the drift that there is", x.slotIn(0, 1), 1);
        x.setHeat(1, -5);
        int[] skips = {2, 3, 5, 6, 0};
        for (int ticks = 0; ticks < skips.length; ticks++) {
            Check.due("30: with heat -5 in " + ticks, x.slotIn(10, ticks), skips[ticks]);
        }
        Check.due("30: nothing has moved", x.line(1, 1), 1);
        Check.due("30: nor drifted", x.line(1, 2), 100);
        Check.due("30: nor skipped", x.line(1, 8), 0);
    }

    private static void lapsNeeded() {
        MercuryLine x = Setup.oneLine(8, 0, 3, 5);
        x.addStation(1, 2);
        x.addStation(1, 3);
        for (int from = 0; from < 3; from++) {
            for (int to = 0; to < 3; to++) {
                Check.due("31: within a lap", x.lapsNeeded(from, to), from == to ? BAD_VALUE : 1);
            }
        }
        Check.due("31: on line 1", x.lapsNeeded(10, 11), 1);
        Check.due("31: on different lines", x.lapsNeeded(0, 11), BAD_VALUE);
        Check.due("31: no station from which", x.lapsNeeded(3, 3), UNKNOWN);
        Check.due("31: no station to which", x.lapsNeeded(0, 12), UNKNOWN);
        Check.due("31: no station -1", x.lapsNeeded(-1, -1), UNKNOWN);
        MercuryLine y = Setup.oneLine(4, 0, 2);
        y.setHeat(0, 5);
        Check.due("31: it does not pause in the first tick", y.lapsNeeded(0, 1), 1);
        y.tick(1);
        Check.due("31: it pauses in the first tick", y.lapsNeeded(0, 1), 2);
        y.setHeat(0, 7);
        Check.due("31: in the first two ticks, the second being free", y.lapsNeeded(0, 1), 2);
        Check.due("31: nothing is booked by that", y.count(1), 0);
        Check.due("31: no tick has passed", y.count(0), 1);
    }

    private static void lapsThatAreTooMany() {
        MercuryLine x = Setup.oneLine(4, 0, 1);
        x.setHeat(0, 10);
        Check.due("31: it never moves", x.lapsNeeded(0, 1), NONE);
        x.setHeat(0, -10);
        Check.due("31: it always skips", x.lapsNeeded(0, 1), NONE);
        MercuryLine y = Setup.oneLine(8, 0, 3);
        y.setHeat(0, 9);
        y.tick(1);
        Check.due("31: drift 9", y.line(0, 2), 109);
        Check.due("31: nine pauses are too many", y.lapsNeeded(0, 1), NONE);
        y.tick(1);
        Check.due("31: eight pauses are nine laps", y.lapsNeeded(0, 1), 9);
        Check.due("31: so it is", arrivesWith(y, 9), 3);
        Check.due("31: eight laps are not enough", arrivesWith(y, 8), 6);
    }

    private static int arrivesWith(MercuryLine x, int laps) {
        x.keep();
        int ticket = x.book(1, 1, 0, 1, laps);
        x.tick(60);
        int state = x.ticket(ticket, 6);
        x.restore();
        return state;
    }

    private static void lapsWithinThreeHundredTicks() {
        MercuryLine x = Setup.oneLine(24, 0, 1);
        x.setHeat(0, 9);
        Check.due("31: 23 steps, one in ten ticks", x.lapsNeeded(0, 1), 1);
        MercuryLine y = Setup.oneLine(24, 0, 23);
        y.setHeat(0, 9);
        Check.due("31: one step", y.lapsNeeded(0, 1), 1);
        MercuryLine z = Setup.oneLine(5, 0, 1, 2);
        z.setHeat(0, -10);
        Check.due("31: skips of an odd line reach all", z.lapsNeeded(0, 1), 1);
        Check.due("31: station 2, too", z.lapsNeeded(0, 2), 1);
        // Behind one step it skips for ever, past both of the stations.
        MercuryLine w = Setup.oneLine(4, 0, 2);
        w.setHeat(0, 9);
        w.tick(1);
        w.setHeat(0, -10);
        Check.due("31: no lap is used, but it never gets there", w.lapsNeeded(0, 1), NONE);
    }
}
