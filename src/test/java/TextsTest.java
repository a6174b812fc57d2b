/** Promises 15 to 17: the text and the tickets in it. */
public final class TextsTest {
    private static final int UNKNOWN = MercuryLine.UNKNOWN;
    private static final int BAD_VALUE = MercuryLine.BAD_VALUE;
    private static final int FULL = MercuryLine.FULL;

    public static void main(String[] args) {
        type();
        clearText();
        faults();
        faultsInTheSecondTicket();
        faultOfEverySign();
        readTickets();
        refusals();
        fullTexts();
        Check.end("TextsTest");
    }

    private static int read(MercuryLine x, String text) {
        x.clearText();
        for (int i = 0; i < text.length(); i++) {
            x.type(text.charAt(i));
        }
        return x.readTickets();
    }

    private static void type() {
        MercuryLine x = new MercuryLine();
        for (int i = 1; i <= 60; i++) {
            Check.due("15: character " + i, x.type((char) (i * 1000)), i);
        }
        Check.due("15: one more", x.type('1'), FULL);
        Check.due("15: length", x.count(20), 60);
        Check.due("15: no act", x.count(19), 0);
        MercuryLine y = Setup.twoLines();
        y.type('1');
        y.setFare(20);
        y.type(',');
        y.undo();
        y.keep();
        y.restore();
        Check.due("15: undo and restore leave the text", y.count(20), 2);
    }

    private static void clearText() {
        MercuryLine x = Setup.twoLines();
        Check.due("16: empty", x.clearText(), 0);
        x.type('7');
        x.type('8');
        int recorded = x.count(19);
        Check.due("16: two", x.clearText(), 2);
        Check.due("16: none is left", x.count(20), 0);
        Check.due("16: no act", x.count(19), recorded);
        Check.due("16: typing begins anew", x.type('1'), 1);
        Check.due("16: the old text is gone", x.readTickets(), -101);
    }

    private static void faults() {
        MercuryLine x = Setup.twoLines();
        Check.due("17: the empty text", x.readTickets(), -100);
        String ticket = "65535,3,00>11*9";
        for (int i = 1; i < ticket.length(); i++) {
            Check.due("17: ends after " + i, read(x, ticket.substring(0, i)), -100 - i);
        }
        Check.due("17: zeros in front", read(x, "01,1,00>01*1"), -101);
        Check.due("17: two zeros", read(x, "00,1,00>01*1"), -101);
        Check.due("17: six digits", read(x, "123456,1,00>01*1"), -105);
        Check.due("17: no value", read(x, ",1,00>01*1"), -100);
        Check.due("17: class 0", read(x, "1,0,00>01*1"), -102);
        Check.due("17: class 4", read(x, "1,4,00>01*1"), -102);
        Check.due("17: class 11", read(x, "1,11,00>01*1"), -103);
        Check.due("17: line 2", read(x, "1,1,20>01*1"), -104);
        Check.due("17: station 6", read(x, "1,1,06>01*1"), -105);
        Check.due("17: no >", read(x, "1,1,00<01*1"), -106);
        Check.due("17: line 2 to which", read(x, "1,1,00>20*1"), -107);
        Check.due("17: station 6 to which", read(x, "1,1,00>16*1"), -108);
        Check.due("17: no *", read(x, "1,1,00>011"), -109);
        Check.due("17: 0 laps", read(x, "1,1,00>01*0"), -110);
        Check.due("17: 10 laps", read(x, "1,1,00>01*10"), -111);
        Check.due("17: another character between two", read(x, "1,1,00>01*1,1,1,00>01*1"), -111);
        Check.due("17: a blank", read(x, " 1,1,00>01*1"), -100);
        Check.due("17: a digit of another script", read(x, "\u0661,1,00>01*1"), -100);
        Check.due("17: a character like 1 in its low byte", read(x, "\u0131,1,00>01*1"), -100);
        Check.due("17: nothing booked", x.count(1), 0);
        Check.due("17: nothing recorded", x.count(19), 4);
    }

    private static void faultsInTheSecondTicket() {
        MercuryLine x = Setup.twoLines();
        String first = "1,1,00>01*1;";
        Check.due("17: none behind ;", read(x, first), -112);
        Check.due("17: ; twice", read(x, first + ";"), -112);
        Check.due("17: its value", read(x, first + "0"), -113);
        Check.due("17: its class", read(x, first + "0,5"), -114);
        Check.due("17: its laps", read(x, first + "0,3,10>11*"), -122);
        Check.due("17: a ; at its end", read(x, first + "0,3,10>11*2;"), -124);
        Check.due("17: the first is not booked either", x.count(1), 0);
        Check.due("17: a fault goes ahead of a station", read(x, "1,1,05>01*1;"), -112);
    }

    /** Tries each character at each place of a text of two tickets. */
    private static void faultOfEverySign() {
        String good = "12,1,00>01*1;0,2,11>00*2";
        String[] allowed = {"123456789", "0123456789,", ",0123456789", "123", ",", "01", "012345", ">",
            "01", "012345", "*", "123456789", ";", "0123456789", ",", "123", ",", "01", "012345", ">",
            "01", "012345", "*", "123456789"};
        for (int place = 0; place < good.length(); place++) {
            for (char sign = 0; sign < 256; sign++) {
                MercuryLine x = Setup.twoLines();
                String text = good.substring(0, place) + sign;
                boolean atItsPlace = allowed[place].indexOf(sign) >= 0 || place == 0 && sign == '0';
                boolean whole = (place == 11 || place == 23) && atItsPlace;
                if (!whole) {
                    int fault = atItsPlace ? place + 1 : place;
                    Check.due("17: of " + text, read(x, text), -100 - fault);
                }
            }
        }
    }

    private static void readTickets() {
        MercuryLine x = Setup.twoLines();
        int recorded = x.count(19);
        Check.due("17: one", read(x, "7,2,00>11*3"), 60);
        int[] told = {7, 2, 0, 11, 3, 60, 0};
        for (int what = 0; what < told.length; what++) {
            Check.due("17: ticket(0, " + what + ")", x.ticket(0, what), told[what]);
        }
        Check.due("17: recorded", x.count(19), Math.min(recorded + 1, 4));
        Check.due("17: the text stays", x.count(20), 11);
        Check.due("17: once more", x.readTickets(), 60);
        Check.due("17: two tickets", x.count(1), 2);
        x.setFare(99);
        Check.due("17: three", read(x, "0,1,00>01*1;65535,3,10>11*9;12345,2,01>10*2"), 99 + 2698 + 396);
        Check.due("17: five tickets", x.count(1), 5);
        Check.due("17: in their order: the first", x.ticket(2, 0), 0);
        Check.due("17: in their order: the second", x.ticket(3, 0), 65535);
        Check.due("17: in their order: the third", x.ticket(4, 0), 12345);
        Check.due("17: held", x.count(14), 120 + 99 + 2698 + 396);
        x.undo();
        Check.due("17: one act", x.count(1), 2);
        Check.due("17: five in a text", read(x, "1,1,00>01*1;2,1,00>01*1;3,1,00>01*1;4,1,00>01*1;5,1,00>01*1"), 495);
        Check.due("17: all are there", x.ticket(6, 0), 5);
        Check.due("17: zeros behind a digit", read(x, "10,1,00>01*1;50300,1,00>01*1"), 198);
        Check.due("17: ten", x.ticket(7, 0), 10);
        Check.due("17: fifty thousand three hundred", x.ticket(8, 0), 50300);
    }

    private static void refusals() {
        MercuryLine x = Setup.twoLines();
        int recorded = x.count(19);
        Check.due("17: no station from which", read(x, "1,1,02>01*1"), UNKNOWN);
        Check.due("17: no station to which", read(x, "1,1,00>15*1"), UNKNOWN);
        Check.due("17: the same", read(x, "1,1,11>11*1"), BAD_VALUE);
        Check.due("17: value 65536", read(x, "65536,1,00>01*1"), BAD_VALUE);
        Check.due("17: value 99999", read(x, "99999,1,00>01*1"), BAD_VALUE);
        Check.due("17: station ahead of value", read(x, "99999,1,00>05*1"), UNKNOWN);
        Check.due("17: of the first: value", read(x, "99999,1,00>01*1;1,1,05>01*1"), BAD_VALUE);
        Check.due("17: of the first: station", read(x, "1,1,05>01*1;99999,1,00>01*1"), UNKNOWN);
        Check.due("17: in the second", read(x, "1,1,00>01*1;1,1,01>01*1"), BAD_VALUE);
        Check.due("17: none is booked", x.count(1), 0);
        Check.due("17: nothing recorded", x.count(19), recorded);
    }

    private static void fullTexts() {
        MercuryLine x = Setup.twoLines();
        for (int i = 0; i < 38; i++) {
            x.book(i, 1, 0, 1, 1);
        }
        String three = "1,1,00>01*1;2,1,00>01*1;3,1,00>01*1";
        Check.due("17: 41", read(x, three), FULL);
        Check.due("17: none of them", x.count(1), 38);
        Check.due("17: a station ahead of room", read(x, three.substring(0, 24) + "3,1,00>05*1"), UNKNOWN);
        Check.due("17: 40", read(x, three.substring(0, 23)), 20);
        Check.due("17: all of them", x.count(1), 40);
        Check.due("17: one more", read(x, "1,1,00>01*1"), FULL);
    }
}
