import java.util.ArrayList;
import java.util.List;

/**
 * What a hall tells behind some calls: every count, symbol, book, order and trade, the first eight of the busiest, and
 * the accounts that most tests use. An object answers no more than 512 calls, so the questions go to as many halls as
 * it takes, each made by the same calls.
 */
final class Everything {
    static final int MOST_CALLS = 512;
    private static final int[] ACCOUNTS = {0, 1, 2, 3, 4, 5, 500, 510, 511};

    /** Somebody buys and sells all that there is at any price, which wakes the stops, and then much time goes. */
    private static final List<Call> AFTERMATH = aftermath();

    private Everything() {
    }

    /** As lines "call = answer": how things are behind these calls, and what comes of that in the aftermath. */
    static List<String> behind(List<Call> calls) {
        List<String> told = new ArrayList<>(asked(calls));
        List<Call> further = new ArrayList<>(calls);
        further.addAll(AFTERMATH);
        told.addAll(asked(further));
        return told;
    }

    static TradeHall hallBehind(List<Call> calls) {
        TradeHall hall = new TradeHall();
        for (Call call : calls) {
            call.on(hall);
        }
        return hall;
    }

    private static List<Call> aftermath() {
        List<Call> calls = new ArrayList<>();
        calls.add(Call.of("deposit 500 1000000000"));
        for (int symbol = 0; symbol < 4; symbol++) {
            calls.add(Call.of("grant 500 " + symbol + " 10000"));
            calls.add(Call.of("order 500 " + symbol + " buys NOW 10000 10000 0"));
            calls.add(Call.of("order 500 " + symbol + " sells NOW 1 10000 0"));
        }
        calls.add(Call.of("pass 1000000"));
        return calls;
    }

    private static List<String> asked(List<Call> calls) {
        List<Call> questions = questions(hallBehind(calls));
        int room = MOST_CALLS - calls.size();
        if (room < 50) {
            throw new AssertionError("too many calls to ask what comes of them");
        }
        List<String> told = new ArrayList<>();
        TradeHall hall = null;
        for (int i = 0; i < questions.size(); i++) {
            if (i % room == 0) {
                hall = hallBehind(calls);
            }
            told.add(questions.get(i) + " = " + questions.get(i).on(hall));
        }
        return told;
    }

    private static List<Call> questions(TradeHall hall) {
        List<Call> questions = new ArrayList<>();
        ask(questions, "count", 5);
        for (int account : ACCOUNTS) {
            ask(questions, "cash " + account, 2);
            for (int symbol = 0; symbol < 4; symbol++) {
                ask(questions, "shares " + account + " " + symbol, 4);
            }
        }
        for (int symbol = 0; symbol < 4; symbol++) {
            ask(questions, "symbol " + symbol, 4);
            ask(questions, "busiest " + symbol, 8);
            askBook(questions, hall, symbol + " buys", symbol, 0);
            askBook(questions, hall, symbol + " sells", symbol, 1);
        }
        for (int order = 0; order < hall.count(1); order++) {
            ask(questions, "about " + order, 6);
            questions.add(Call.of("ahead " + order));
        }
        for (int trade = 0; trade < Math.min(300, hall.count(0)); trade++) {
            ask(questions, "trade " + trade, 4);
        }
        return questions;
    }

    private static void askBook(List<Call> questions, TradeHall hall, String book, int symbol, int side) {
        questions.add(Call.of("best " + book));
        questions.add(Call.of("depth " + book + " 0"));
        for (int i = 0; i < hall.depth(symbol, side, 0); i++) {
            ask(questions, "level " + book + " " + i, 3);
            questions.add(Call.of("depth " + book + " " + hall.level(symbol, side, i, 0)));
        }
    }

    /** The same call with 0 and the numbers behind it as its last one. */
    private static void ask(List<Call> questions, String start, int whats) {
        for (int what = 0; what < whats; what++) {
            questions.add(Call.of(start + " " + what));
        }
    }
}
