import java.util.ArrayList;
import java.util.Collections;
import java.util.List;
import java.util.Random;

/**
 * Runs of calls drawn from fixed seeds, each answer compared with the one of ReferenceLine. What an
 * object answers behind its 512th call is free: so all that is told is asked of further objects, on
 * which the run is made anew.
 */
public final class RandomRunsTest {
    private static final int MOST_CALLS = 512;
    /** A shorter run has room for one more step, be it a text that is typed, and for some questions. */
    private static final int LONG_RUN = 400;

    private record Due(Call call, int answer) {
        void compare(String when, MercuryLine x) {
            int got = call.of(x);
            Check.due(got == answer ? when : when + call.text(), got, answer);
        }
    }

    private final Random random;
    private final String name;
    private final MercuryLine line = new MercuryLine();
    private final ReferenceLine reference = new ReferenceLine();
    private final List<Due> made = new ArrayList<>();
    private final List<Due> asked = new ArrayList<>();
    private final int values;
    private final int wrongPercent;
    private final int longTickPercent;
    private final int textPercent;
    private final boolean busy;

    private RandomRunsTest(int seed) {
        random = new Random(seed);
        name = "run " + seed + ": ";
        values = 1 + random.nextInt(12);
        wrongPercent = random.nextInt(4) * 5;
        longTickPercent = random.nextInt(3) * 10;
        textPercent = random.nextInt(3) == 0 ? 8 : 1;
        busy = random.nextBoolean();
    }

    public static void main(String[] args) {
        int runs = args.length > 0 ? Integer.parseInt(args[0]) : 250;
        int first = args.length > 1 ? Integer.parseInt(args[1]) : 1;
        for (int seed = first; seed < first + runs && !Check.anyWrong(); seed++) {
            new RandomRunsTest(seed).run();
        }
        Check.end("RandomRunsTest");
    }

    private void run() {
        lay();
        if (random.nextInt(4) == 0) {
            crowd();
        }
        for (int step = 0; made.size() < LONG_RUN && !Check.anyWrong(); step++) {
            act(random.nextInt(100));
            if (step % 8 == 0) {
                lookAtAll();
            }
            if (step % 16 == 0) {
                lookAhead();
            }
        }
        lookAtAll();
    }

    private void make(String method, int... with) {
        Call call = new Call(method, with);
        Due due = new Due(call, call.of(reference));
        made.add(due);
        due.compare(name, line);
    }

    private void ask(String method, int... with) {
        Call call = new Call(method, with);
        asked.add(new Due(call, call.of(reference)));
    }

    private void answerWhatIsAsked() {
        Collections.shuffle(asked, random);
        int each = MOST_CALLS - made.size();
        for (int first = 0; first < asked.size() && !Check.anyWrong(); first += each) {
            MercuryLine x = new MercuryLine();
            for (Due due : made) {
                due.compare(name, x);
            }
            String when = name + "after " + made.size() + " calls ";
            for (Due due : asked.subList(first, Math.min(first + each, asked.size()))) {
                due.compare(when, x);
            }
        }
        asked.clear();
    }

    private boolean goesWrong() {
        return random.nextInt(100) < wrongPercent;
    }

    private int odd() {
        int[] odd = {-1, -2, 0, 9, 10, 16, 17, 20, 23, 24, 41, 60, 61, 99, 100, 301, 65536,
            Integer.MAX_VALUE, Integer.MIN_VALUE, Integer.MIN_VALUE + 1};
        return odd[random.nextInt(odd.length)];
    }

    private int from(int low, int high) {
        return goesWrong() ? odd() : low + random.nextInt(high - low + 1);
    }

    private int aLine() {
        return from(0, 1);
    }

    private int aStation() {
        int line = random.nextInt(2);
        int stations = Math.max(1, reference.line(line, 4));
        return goesWrong() ? odd() : 10 * line + random.nextInt(stations);
    }

    private int aTicket() {
        int tickets = Math.max(1, reference.count(1));
        int last = random.nextInt(3) > 0 ? Math.max(0, tickets - 6) : 0;
        return goesWrong() ? odd() : last + random.nextInt(tickets - last);
    }

    private void lay() {
        for (int n = 0; n < 2; n++) {
            if (random.nextInt(3) > 0) {
                make("build", n, 2 + random.nextInt(busy ? 5 : 23));
            }
            int stations = 1 + random.nextInt(6);
            for (int i = 0; i < stations; i++) {
                make("addStation", n, random.nextInt(24));
            }
            make("setHeat", n, random.nextInt(21) - 10);
        }
    }

    /** Many tickets at once: some runs come to the 40th and beyond. */
    private void crowd() {
        int tickets = 20 + random.nextInt(19);
        for (int i = 0; i < tickets; i++) {
            book();
        }
    }

    private void act(int choice) {
        if (choice < textPercent) {
            text();
        } else if (choice < 32) {
            book();
        } else if (choice < 56) {
            make("tick", random.nextInt(100) < longTickPercent ? from(1, 60) : from(1, 3));
        } else if (choice < 64) {
            make("call", aStation(), from(0, values));
        } else if (choice < 66) {
            make("callBack", aStation());
        } else if (choice < 71) {
            make("cancel", aTicket());
        } else if (choice < 74) {
            make("order", aTicket(), from(1, 50));
        } else if (choice < 76) {
            make("endOrder", from(0, 3));
        } else if (choice < 88) {
            change(random.nextInt(7));
        } else if (choice < 95) {
            make("undo");
        } else if (choice < 97) {
            make("keep");
        } else {
            make("restore");
        }
    }

    private void book() {
        make("book", from(0, values), from(1, 3), aStation(), aStation(), from(1, random.nextBoolean() ? 2 : 9));
    }

    private void change(int choice) {
        switch (choice) {
            case 0: make("build", aLine(), from(2, 24)); break;
            case 1: make("addStation", aLine(), from(0, 23)); break;
            case 2:
            case 3: make("setHeat", aLine(), from(-10, 10)); break;
            case 4: make("setFare", from(1, 99)); break;
            case 5: make("setPatience", from(0, random.nextBoolean() ? 4 : 50)); break;
            default:
                if (random.nextInt(3) == 0) {
                    make("drain", aLine());
                }
        }
    }

    private void text() {
        if (random.nextInt(4) > 0) {
            make("clearText");
        }
        int tickets = random.nextInt(4) == 0 ? 5 : 1 + random.nextInt(2);
        StringBuilder wanted = new StringBuilder();
        for (int i = 0; i < tickets; i++) {
            wanted.append(i == 0 ? "" : ";").append(ticketText());
        }
        spoil(wanted);
        for (int i = 0; i < wanted.length() && i <= 60; i++) {
            make("type", wanted.charAt(i));
        }
        make("readTickets");
    }

    private String ticketText() {
        int value = random.nextInt(6) == 0 ? random.nextInt(100000) : random.nextInt(values + 1);
        return value + "," + (1 + random.nextInt(3)) + "," + aPlace() + ">" + aPlace() + "*" + (1 + random.nextInt(9));
    }

    /** Two digits: mostly of a station that there is. */
    private String aPlace() {
        int line = random.nextInt(2);
        int stations = Math.max(1, reference.line(line, 4));
        return "" + line + (random.nextInt(12) == 0 ? random.nextInt(6) : random.nextInt(stations));
    }

    private void spoil(StringBuilder wanted) {
        if (random.nextInt(3) > 0) {
            return;
        }
        String signs = "0123456789,,;>*+-/: <)?\u00e9\u20ac";
        int place = random.nextInt(wanted.length());
        char sign = signs.charAt(random.nextInt(signs.length()));
        switch (random.nextInt(4)) {
            case 0: wanted.setLength(place); break;
            case 1: wanted.setCharAt(place, sign); break;
            case 2: wanted.insert(place, sign); break;
            default: wanted.deleteCharAt(place);
        }
    }

    private void lookAtAll() {
        askAll("count", 21);
        for (int n = -1; n <= 2; n++) {
            askAll("line", n, 9);
            askAll("slot", n, 24);
        }
        for (int station = -1; station <= 20; station++) {
            askAll("station", station, 9);
            askAll("waiting", station, 6);
            askAll("calls", station, 3);
        }
        for (int ticket = -1; ticket <= 40; ticket++) {
            askAll("ticket", ticket, 14);
        }
        for (int order = -1; order <= 4; order++) {
            askAll("ordered", order, 7);
        }
        for (int back = -1; back <= 12; back++) {
            askAll("event", back, 5);
        }
        ask("price", from(1, 3), from(1, 9));
        answerWhatIsAsked();
    }

    private void askAll(String method, int last) {
        for (int what = -1; what <= last; what++) {
            ask(method, what);
        }
    }

    private void askAll(String method, int number, int last) {
        for (int what = -1; what <= last; what++) {
            ask(method, number, what);
        }
    }

    private void lookAhead() {
        for (int i = 0; i < 4; i++) {
            make("fate", aTicket(), from(0, 3));
        }
        make("slotIn", aStation(), from(0, 300));
        for (int i = 0; i < 4; i++) {
            int from = aStation();
            make("lapsNeeded", from, random.nextInt(5) == 0 ? aStation() : from / 10 * 10 + random.nextInt(6));
        }
    }
}
