import java.util.Arrays;

/** A call with its arguments, for MercuryLine and for ReferenceLine alike. */
final class Call {
    private final String method;
    private final int[] with;

    Call(String method, int... with) {
        this.method = method;
        this.with = with;
    }

    String text() {
        return method + Arrays.toString(with).replace('[', '(').replace(']', ')');
    }

    int of(MercuryLine x) {
        switch (method) {
            case "build": return x.build(with[0], with[1]);
            case "addStation": return x.addStation(with[0], with[1]);
            case "setHeat": return x.setHeat(with[0], with[1]);
            case "setFare": return x.setFare(with[0]);
            case "setPatience": return x.setPatience(with[0]);
            case "drain": return x.drain(with[0]);
            case "book": return x.book(with[0], with[1], with[2], with[3], with[4]);
            case "cancel": return x.cancel(with[0]);
            case "call": return x.call(with[0], with[1]);
            case "callBack": return x.callBack(with[0]);
            case "order": return x.order(with[0], with[1]);
            case "endOrder": return x.endOrder(with[0]);
            case "tick": return x.tick(with[0]);
            case "type": return x.type((char) with[0]);
            case "clearText": return x.clearText();
            case "readTickets": return x.readTickets();
            case "undo": return x.undo();
            case "keep": return x.keep();
            case "restore": return x.restore();
            case "line": return x.line(with[0], with[1]);
            case "slot": return x.slot(with[0], with[1]);
            case "station": return x.station(with[0], with[1]);
            case "waiting": return x.waiting(with[0], with[1]);
            case "calls": return x.calls(with[0], with[1]);
            case "ticket": return x.ticket(with[0], with[1]);
            case "ordered": return x.ordered(with[0], with[1]);
            case "price": return x.price(with[0], with[1]);
            case "fate": return x.fate(with[0], with[1]);
            case "slotIn": return x.slotIn(with[0], with[1]);
            case "lapsNeeded": return x.lapsNeeded(with[0], with[1]);
            case "event": return x.event(with[0], with[1]);
            case "count": return x.count(with[0]);
            default: throw new IllegalStateException(method);
        }
    }

    int of(ReferenceLine x) {
        switch (method) {
            case "build": return x.build(with[0], with[1]);
            case "addStation": return x.addStation(with[0], with[1]);
            case "setHeat": return x.setHeat(with[0], with[1]);
            case "setFare": return x.setFare(with[0]);
            case "setPatience": return x.setPatience(with[0]);
            case "drain": return x.drain(with[0]);
            case "book": return x.book(with[0], with[1], with[2], with[3], with[4]);
            case "cancel": return x.cancel(with[0]);
            case "call": return x.call(with[0], with[1]);
            case "callBack": return x.callBack(with[0]);
            case "order": return x.order(with[0], with[1]);
            case "endOrder": return x.endOrder(with[0]);
            case "tick": return x.tick(with[0]);
            case "type": return x.type((char) with[0]);
            case "clearText": return x.clearText();
            case "readTickets": return x.readTickets();
            case "undo": return x.undo();
            case "keep": return x.keep();
            case "restore": return x.restore();
            case "line": return x.line(with[0], with[1]);
            case "slot": return x.slot(with[0], with[1]);
            case "station": return x.station(with[0], with[1]);
            case "waiting": return x.waiting(with[0], with[1]);
            case "calls": return x.calls(with[0], with[1]);
            case "ticket": return x.ticket(with[0], with[1]);
            case "ordered": return x.ordered(with[0], with[1]);
            case "price": return x.price(with[0], with[1]);
            case "fate": return x.fate(with[0], with[1]);
            case "slotIn": return x.slotIn(with[0], with[1]);
            case "lapsNeeded": return x.lapsNeeded(with[0], with[1]);
            case "event": return x.event(with[0], with[1]);
            case "count": return x.count(with[0]);
            default: throw new IllegalStateException(method);
        }
    }
}
