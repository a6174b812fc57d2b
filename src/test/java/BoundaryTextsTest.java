import java.util.function.Supplier;

/** Boundary cases of the part TEXTS, and of the promises 15 to 17. */
public final class BoundaryTextsTest {
    private static final int UNKNOWN = MercuryLine.UNKNOWN;
    private static final int BAD_VALUE = MercuryLine.BAD_VALUE;
    private static final int FULL = MercuryLine.FULL;
    private static final int NONE = MercuryLine.NONE;
    /** A ticket of eleven characters, the shortest one; five of them with ";" between take 59. */
    private static final String SHORT = "1,1,00>01*1";
    private static final String LONG = "65535,3,00>11*9";

    public static void main(String[] args) {
        sixtyCharacters();
        oneOrMoreTickets();
        digitsOfAValue();
        classOfATicket();
        stationsOfATicket();
        lapsOfATicket();
        commasAndSigns();
        faultAtItsPlace();
        faultAtTheEnd();
        noPartInTheFault();
        typeAnyCharacter();
        typeLength();
        typeFull();
        clearLength();
        readStays();
        readAllOrNone();
        readIsOneAct();
        readPays();
        readFault();
        readRefusesTheFirst();
        readFull();
        Check.end("BoundaryTextsTest");
    }

    private static Supplier<MercuryLine> with(String text) {
        return () -> Setup.typed(Setup.twoLines(), text);
    }

    private static void faultOf(Sentence s, String text, int fault) {
        s.unchanged("of " + text, with(text), MercuryLine::readTickets, -100 - fault);
    }

    /** The text has no fault: its one ticket, or its first, has this value, class, stations and laps. */
    private static void good(Sentence s, String text, int... due) {
        MercuryLine x = with(text).get();
        s.due(text + " has no fault", x.readTickets() > 0 ? 1 : 0, 1);
        s.ticket(text, x, 0, due);
        s.due("the length of " + text, x.count(20), text.length());
    }

    private static String tickets(int number, String ticket) {
        StringBuilder text = new StringBuilder();
        for (int i = 0; i < number; i++) {
            text.append(i == 0 ? "" : ";").append(ticket);
        }
        return text.toString();
    }

    private static void sixtyCharacters() {
        Sentence s = new Sentence("TEXTS", "There is a text of at most 60 characters, empty at first.");
        MercuryLine x = Setup.twoLines();
        s.due("empty at first", x.count(20), 0);
        String sixty = "1" + tickets(5, SHORT);
        for (int i = 0; i < 60; i++) {
            s.due("character " + i, x.type(sixty.charAt(i)), i + 1);
            s.due("the length then", x.count(20), i + 1);
        }
        s.unchanged("a 61st", with(sixty), y -> y.type('1'), FULL);
        s.unchanged("a 61st that would be a fault", with(sixty), y -> y.type('x'), FULL);
        s.due("all sixty are read", x.readTickets(), 50);
        s.due("the first ticket", x.ticket(0, 0), 11);
        s.due("the fifth ticket", x.ticket(4, 0), 1);
        s.due("five tickets", x.count(1), 5);
    }

    private static void oneOrMoreTickets() {
        Sentence s = new Sentence("TEXTS", "A text of tickets is one or more tickets with \";\" between two.");
        for (int number = 1; number <= 5; number++) {
            MercuryLine x = with(tickets(number, SHORT)).get();
            s.due(number + " tickets", x.readTickets(), 10 * number);
            s.due(number + " tickets are booked", x.count(1), number);
            s.due("there is no other", x.ticket(number, 0), UNKNOWN);
            if (number < 5) {
                faultOf(s, tickets(number, SHORT) + ";", 12 * number);
                faultOf(s, tickets(number, SHORT) + ";;", 12 * number);
                faultOf(s, tickets(number, SHORT) + "," + SHORT.substring(0, 1), 12 * number - 1);
            }
        }
        faultOf(s, "", 0);
        faultOf(s, ";", 0);
        faultOf(s, ";" + SHORT, 0);
        faultOf(s, SHORT + SHORT, 11);
        faultOf(s, SHORT + " ;" + SHORT, 11);
        faultOf(s, SHORT + ":" + SHORT, 11);
        faultOf(s, tickets(5, SHORT) + ";", 60);
    }

    private static void digitsOfAValue() {
        Sentence s = new Sentence("TEXTS",
            "the value (one to five digits, without zeros in front unless it is the single digit 0)");
        good(s, "0,1,00>01*1", 0, 1, 0, 1, 1);
        good(s, "9,1,00>01*1", 9, 1, 0, 1, 1);
        good(s, "10,1,00>01*1", 10, 1, 0, 1, 1);
        good(s, "10000,1,00>01*1", 10000, 1, 0, 1, 1);
        good(s, "65535,1,00>01*1", 65535, 1, 0, 1, 1);
        faultOf(s, "00,1,00>01*1", 1);
        faultOf(s, "01,1,00>01*1", 1);
        faultOf(s, "000001,1,00>01*1", 1);
        faultOf(s, "100000,1,00>01*1", 5);
        faultOf(s, "123456,1,00>01*1", 5);
        faultOf(s, "999999", 5);
        faultOf(s, ",1,00>01*1", 0);
        faultOf(s, "-1,1,00>01*1", 0);
        faultOf(s, "+1,1,00>01*1", 0);
        faultOf(s, " 1,1,00>01*1", 0);
        faultOf(s, "1 ,1,00>01*1", 1);
        faultOf(s, "1/,1,00>01*1", 1);
        faultOf(s, "1:,1,00>01*1", 1);
        faultOf(s, "1234/,1,00>01*1", 4);
        faultOf(s, "1234:,1,00>01*1", 4);
        faultOf(s, "/,1,00>01*1", 0);
        faultOf(s, ":,1,00>01*1", 0);
        faultOf(s, SHORT + ";00,1,00>01*1", 13);
        faultOf(s, SHORT + ";123456", 17);
        s.unchanged("five nines", with("99999,1,00>01*1"), MercuryLine::readTickets, BAD_VALUE);
    }

    private static void classOfATicket() {
        Sentence s = new Sentence("TEXTS", "\",\" and the class (1 to 3)");
        good(s, "7,1,00>01*1", 7, 1, 0, 1, 1, 10);
        good(s, "7,3,00>01*1", 7, 3, 0, 1, 1, 55);
        faultOf(s, "7,0,00>01*1", 2);
        faultOf(s, "7,4,00>01*1", 2);
        faultOf(s, "7,9,00>01*1", 2);
        faultOf(s, "7,,00>01*1", 2);
        faultOf(s, "7,11,00>01*1", 3);
        faultOf(s, "7,01,00>01*1", 2);
        faultOf(s, "7,/,00>01*1", 2);
        faultOf(s, "7,:,00>01*1", 2);
    }

    private static void stationsOfATicket() {
        Sentence s = new Sentence("TEXTS", "A station is two digits: its line (0 or 1) and its number (0 to 5).");
        good(s, "7,1,00>11*1", 7, 1, 0, 11, 1);
        good(s, "7,1,10>01*1", 7, 1, 10, 1, 1);
        faultOf(s, "7,1,20>01*1", 4);
        faultOf(s, "7,1,90>01*1", 4);
        faultOf(s, "7,1,06>01*1", 5);
        faultOf(s, "7,1,16>01*1", 5);
        faultOf(s, "7,1,09>01*1", 5);
        faultOf(s, "7,1,0>01*1", 5);
        faultOf(s, "7,1,>01*1", 4);
        faultOf(s, "7,1,000>01*1", 6);
        faultOf(s, "7,1,00>20*1", 7);
        faultOf(s, "7,1,00>06*1", 8);
        faultOf(s, "7,1,00>16*1", 8);
        faultOf(s, "7,1,00>1*1", 8);
        faultOf(s, "7,1,00>*1", 7);
        faultOf(s, "7,1,00>011*1", 9);
        faultOf(s, "7,1,/0>01*1", 4);
        faultOf(s, "7,1,0/>01*1", 5);
        faultOf(s, "7,1,00>/1*1", 7);
        faultOf(s, "7,1,00>0/*1", 8);
        Supplier<MercuryLine> six = () -> {
            MercuryLine x = Setup.oneLine(8, 0, 1, 2, 3, 4, 5);
            for (int offset = 0; offset < 6; offset++) {
                x.addStation(1, offset);
            }
            return x;
        };
        MercuryLine x = Setup.typed(six.get(), "7,1,05>15*1;8,1,15>05*1");
        s.due("the last stations of both lines", x.readTickets(), 20);
        s.ticket("the first", x, 0, 7, 1, 5, 15, 1);
        s.ticket("the second", x, 1, 8, 1, 15, 5, 1);
    }

    private static void lapsOfATicket() {
        Sentence s = new Sentence("TEXTS", "\"*\" and the laps (1 to 9)");
        good(s, "7,1,00>01*1", 7, 1, 0, 1, 1, 10);
        good(s, "7,1,00>01*9", 7, 1, 0, 1, 9, 90);
        faultOf(s, "7,1,00>01*0", 10);
        faultOf(s, "7,1,00>01*", 10);
        faultOf(s, "7,1,00>01*10", 11);
        faultOf(s, "7,1,00>01*99", 11);
        faultOf(s, "7,1,00>01*01", 10);
        faultOf(s, "7,1,00>01*;" + SHORT, 10);
        faultOf(s, "7,1,00>01*/", 10);
        faultOf(s, "7,1,00>01*:", 10);
    }

    private static void commasAndSigns() {
        Sentence s = new Sentence("TEXTS",
            "\",\" and the station from which, \">\" and the station to which, \"*\" and the laps");
        faultOf(s, "7;1,00>01*1", 1);
        faultOf(s, "7.1,00>01*1", 1);
        faultOf(s, "7,1;00>01*1", 3);
        faultOf(s, "7,1.00>01*1", 3);
        faultOf(s, "7,1,00<01*1", 6);
        faultOf(s, "7,1,00=01*1", 6);
        faultOf(s, "7,1,00?01*1", 6);
        faultOf(s, "7,1,00,01*1", 6);
        faultOf(s, "7,1,00>01x1", 9);
        faultOf(s, "7,1,00>01+1", 9);
        faultOf(s, "7,1,00>01)1", 9);
        faultOf(s, "7,1,00>01,1", 9);
        good(s, "7,1,00>01*1", 7, 1, 0, 1, 1);
    }

    private static void faultAtItsPlace() {
        Sentence s = new Sentence("TEXTS",
            "The fault of the text is the index, from 0, of the first character that is not allowed at its place");
        String two = SHORT + ";" + SHORT;
        for (int place = 0; place < two.length(); place++) {
            faultOf(s, two.substring(0, place) + "x" + two.substring(place + 1), place);
            faultOf(s, two.substring(0, place) + "x", place);
        }
        faultOf(s, "x" + SHORT, 0);
        faultOf(s, SHORT + "x", 11);
        faultOf(s, two + "\u00b1", 23);
        faultOf(s, "\u0131" + SHORT.substring(1), 0);
        faultOf(s, "\u0661" + SHORT.substring(1), 0);
        faultOf(s, "1" + (char) 0, 1);
        faultOf(s, "1" + (char) 65535, 1);
        faultOf(s, "1" + (char) (256 + ','), 1);
        faultOf(s, "a,b", 0);
    }

    private static void faultAtTheEnd() {
        Sentence s = new Sentence("TEXTS", "or the length of the text if it ends too early (the empty text does)");
        faultOf(s, "", 0);
        String two = LONG + ";" + SHORT;
        for (int length = 1; length < two.length(); length++) {
            boolean whole = length == LONG.length();
            if (!whole) {
                faultOf(s, two.substring(0, length), length);
            }
        }
        s.due("the whole first ticket", with(LONG).get().readTickets(), 295);
        s.due("both whole tickets", with(two).get().readTickets(), 305);
        faultOf(s, tickets(5, SHORT).substring(0, 58), 58);
        s.due("59 characters", with(tickets(5, SHORT)).get().readTickets(), 50);
        faultOf(s, tickets(5, SHORT) + ";", 60);
        s.unchanged("emptied again", () -> {
            MercuryLine x = with(SHORT).get();
            x.clearText();
            return x;
        }, MercuryLine::readTickets, -100);
    }

    private static void noPartInTheFault() {
        Sentence s = new Sentence("TEXTS",
            "Whether there are such stations, and whether the value is at most 65535, plays no part in it.");
        s.unchanged("no such station", with("7,1,05>01*1"), MercuryLine::readTickets, UNKNOWN);
        s.unchanged("no such station to which", with("7,1,00>15*1"), MercuryLine::readTickets, UNKNOWN);
        s.unchanged("no stations at all", () -> Setup.typed(new MercuryLine(), SHORT),
            MercuryLine::readTickets, UNKNOWN);
        s.unchanged("the value 65536", with("65536,1,00>01*1"), MercuryLine::readTickets, BAD_VALUE);
        s.unchanged("the value 99999", with("99999,1,00>01*1"), MercuryLine::readTickets, BAD_VALUE);
        s.due("the value 65535", with("65535,1,00>01*1").get().readTickets(), 10);
        faultOf(s, "7,1,05>01*0", 10);
        faultOf(s, "65536,1,00>01*0", 14);
        faultOf(s, "7,1,05>01*1;", 12);
        faultOf(s, "99999,1,05>15*1;x", 16);
    }

    private static void typeAnyCharacter() {
        Sentence s = new Sentence("Promise 15", "character: any character");
        MercuryLine x = Setup.twoLines();
        char[] signs = {0, '\n', ' ', '0', ';', 127, 128, 255, 256, 0xd800, 0xdc00, 0xffff};
        for (int i = 0; i < signs.length; i++) {
            s.due("character " + (int) signs[i], x.type(signs[i]), i + 1);
        }
        s.due("the length", x.count(20), signs.length);
        s.due("the first is a fault", x.readTickets(), -100);
        s.due("typing is no act", x.count(19), 4);
        s.due("so the last act is undone", x.undo(), 3);
        s.due("which was a station", x.line(1, 4), 1);
        s.due("and the text stays", x.count(20), signs.length);
    }

    private static void typeLength() {
        Sentence s = new Sentence("Promise 15", "Types a character behind the text.");
        MercuryLine x = Setup.twoLines();
        for (int i = 0; i < SHORT.length(); i++) {
            s.due("the fault is behind what is typed", x.readTickets(), -100 - i);
            s.due("the length then", x.type(SHORT.charAt(i)), i + 1);
        }
        s.due("the ticket is whole", x.readTickets(), 10);
    }

    private static void typeFull() {
        Sentence s = new Sentence("Promise 15", "Returns the length of the text then; FULL if it has 60 characters.");
        String fiftyNine = tickets(5, SHORT);
        s.due("the 60th", with(fiftyNine).get().type(';'), 60);
        s.unchanged("the 61st", with(fiftyNine + ";"), x -> x.type('1'), FULL);
        MercuryLine x = with(fiftyNine + ";").get();
        x.type('1');
        s.due("the text is as it was", x.readTickets(), -160);
        s.due("its length", x.clearText(), 60);
        s.due("room again", x.type('1'), 1);
    }

    private static void clearLength() {
        Sentence s = new Sentence("Promise 16", "Empties the text. Returns the length that it had.");
        s.unchanged("the empty one", Setup::twoLines, MercuryLine::clearText, 0);
        for (int length : new int[] {1, 59, 60}) {
            MercuryLine x = with((tickets(5, SHORT) + ";").substring(0, length)).get();
            s.due("of " + length, x.clearText(), length);
            s.due("it is empty", x.count(20), 0);
            s.due("again", x.clearText(), 0);
            s.due("its fault", x.readTickets(), -100);
            s.due("one is typed", x.type('x'), 1);
            s.due("one is cleared", x.clearText(), 1);
            s.due("that is no act", x.count(19), 4);
        }
    }

    private static void readStays() {
        Sentence s = new Sentence("Promise 17", "Books the tickets of the text, which stays, in their order");
        MercuryLine x = with("3,2,00>01*1;2,3,01>10*2;1,1,11>00*9").get();
        s.due("paid", x.readTickets(), 20 + 85 + 90);
        s.ticket("the first", x, 0, 3, 2, 0, 1, 1, 20, 0, NONE, NONE, 0, NONE, NONE, NONE, NONE);
        s.ticket("the second", x, 1, 2, 3, 1, 10, 2, 85, 0, NONE, NONE, 0, NONE, NONE, NONE, NONE);
        s.ticket("the third", x, 2, 1, 1, 11, 0, 9, 90, 0, NONE, NONE, 0, NONE, NONE, NONE, NONE);
        s.due("the text stays", x.count(20), 35);
        x.tick(1);
        s.due("it is read again", x.readTickets(), 195);
        s.ticket("the first of these", x, 3, 3, 2, 0, 1, 1, 20, 0, NONE, NONE, 1);
        s.due("six", x.count(1), 6);
    }

    private static void readAllOrNone() {
        Sentence s = new Sentence("Promise 17", "all of them, or none");
        s.unchanged("the second has a fault", with(SHORT + ";x"), MercuryLine::readTickets, -112);
        s.unchanged("the second has no station", with(SHORT + ";1,1,00>02*1"), MercuryLine::readTickets, UNKNOWN);
        s.unchanged("the second has one station", with(SHORT + ";1,1,00>00*1"), MercuryLine::readTickets, BAD_VALUE);
        s.unchanged("the last of five has no station", with(tickets(4, SHORT) + ";1,1,00>12*1"),
            MercuryLine::readTickets, UNKNOWN);
        Supplier<MercuryLine> full = () -> Setup.typed(Setup.booked(39), tickets(2, SHORT));
        s.unchanged("there is no room for the second", full, MercuryLine::readTickets, FULL);
    }

    private static void readIsOneAct() {
        Sentence s = new Sentence("Promise 17", "This is one act.");
        s.act("one ticket", with(SHORT), MercuryLine::readTickets, 10);
        s.act("five tickets", with(tickets(5, SHORT)), MercuryLine::readTickets, 50);
        MercuryLine x = Setup.typed(Setup.booked(1), tickets(5, SHORT));
        x.undo();
        x.undo();
        s.due("three are left", x.count(19), 2);
        x.readTickets();
        s.due("one is recorded", x.count(19), 3);
        s.due("five are booked", x.count(1), 5);
        s.due("undone at once", x.undo(), 2);
        s.due("none is booked", x.count(1), 0);
        s.due("the text stays", x.count(20), 59);
    }

    private static void readPays() {
        Sentence s = new Sentence("Promise 17", "Returns what is paid for them");
        int[][] due = {{1, 1 + 9 * 2 + 52}, {10, 10 + 9 * 20 + 295}, {99, 99 + 9 * 198 + 2698}};
        for (int[] row : due) {
            MercuryLine x = with("0,1,00>01*1;65535,2,10>11*9;12345,3,01>10*9").get();
            x.setFare(row[0]);
            s.due("with the fare " + row[0], x.readTickets(), row[1]);
            s.due("paid", x.count(11), row[1]);
            s.due("held", x.count(14), row[1]);
            s.due("again", x.readTickets(), row[1]);
            s.due("all that was paid", x.count(11), 2 * row[1]);
        }
    }

    private static void readFault() {
        Sentence s = new Sentence("Promise 17", "-100 minus the fault of the text if it has one (which is an error)");
        s.unchanged("the least", with(""), MercuryLine::readTickets, -100);
        s.unchanged("the greatest", with(tickets(5, SHORT) + ";"), MercuryLine::readTickets, -160);
        s.unchanged("40 tickets", () -> Setup.typed(Setup.booked(40), SHORT + ";"), MercuryLine::readTickets, -112);
        s.unchanged("no stations", () -> Setup.typed(new MercuryLine(), "1,1,00>00*0"), MercuryLine::readTickets, -110);
    }

    private static void readRefusesTheFirst() {
        Sentence s = new Sentence("Promise 17",
            "then, of the first ticket for which it is so, UNKNOWN or BAD_VALUE as book() tells");
        String unknown = "1,1,00>02*1";
        String same = "1,1,11>11*1";
        String great = "65536,1,00>01*1";
        String both = "65536,1,02>02*1";
        s.unchanged("no station", with(unknown), MercuryLine::readTickets, UNKNOWN);
        s.unchanged("one station", with(same), MercuryLine::readTickets, BAD_VALUE);
        s.unchanged("a value that is too great", with(great), MercuryLine::readTickets, BAD_VALUE);
        s.unchanged("no station, and a value that is too great", with(both), MercuryLine::readTickets, UNKNOWN);
        s.unchanged("the first is the one of these", with(great + ";" + unknown), MercuryLine::readTickets, BAD_VALUE);
        s.unchanged("the first is the other", with(unknown + ";" + great), MercuryLine::readTickets, UNKNOWN);
        s.unchanged("the first is good", with(SHORT + ";" + same + ";" + unknown), MercuryLine::readTickets, BAD_VALUE);
        s.unchanged("the first two are good", with(tickets(2, SHORT) + ";" + unknown + ";" + same),
            MercuryLine::readTickets, UNKNOWN);
        s.unchanged("40 tickets, no station", () -> Setup.typed(Setup.booked(40), unknown),
            MercuryLine::readTickets, UNKNOWN);
        s.unchanged("40 tickets, one station", () -> Setup.typed(Setup.booked(40), SHORT + ";" + same),
            MercuryLine::readTickets, BAD_VALUE);
    }

    private static void readFull() {
        Sentence s = new Sentence("Promise 17", "FULL if there would be more than 40");
        for (int number = 1; number <= 5; number++) {
            String text = tickets(number, SHORT);
            int before = 40 - number;
            MercuryLine x = Setup.typed(Setup.booked(before), text);
            s.due(number + " behind " + before, x.readTickets(), 10 * number);
            s.due("40 tickets", x.count(1), 40);
            s.ticket("the last", x, 39, 1, 1, 0, 1, 1, 10);
            s.due("no more", x.readTickets(), FULL);
            s.unchanged(number + " behind " + (before + 1), () -> Setup.typed(Setup.booked(before + 1), text),
                MercuryLine::readTickets, FULL);
        }
    }
}
