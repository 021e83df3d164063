/** Promise 5 (order): the six kinds, who trades with whom at what price, and what is refused. */
public final class OrderTest {
    private static final Class<IndexOutOfBoundsException> INDEX = IndexOutOfBoundsException.class;
    private static final Class<IllegalArgumentException> ARGUMENT = IllegalArgumentException.class;
    private static final Class<IllegalStateException> STATE = IllegalStateException.class;

    private static final int PLAIN = 0;
    private static final int NOW = 1;
    private static final int WHOLE = 2;
    private static final int QUIET = 3;
    private static final int LAYERED = 4;
    private static final int STOP = 5;

    public static void main(String[] args) {
        wrongNumbers();
        notEnoughFree();
        tooManyThere();
        priceThenTurn();
        ownAccount();
        now();
        whole();
        wholeAmongLayers();
        quiet();
        layered();
        stops();
        stopsWakeStops();
        stopsByNumber();
        Check.end();
    }

    /** Accounts 1 to 4 with plenty of everything. */
    private static TradeHall richHall() {
        TradeHall hall = new TradeHall();
        for (int account = 1; account <= 4; account++) {
            hall.deposit(account, 1000000000);
            for (int symbol = 0; symbol < 4; symbol++) {
                hall.grant(account, symbol, 1000000);
            }
        }
        return hall;
    }

    private static void buy(TradeHall hall, int account, int kind, int price, int amount, int extra) {
        Check.is("buy", hall.count(1), () -> hall.order(account, 0, 0, kind, price, amount, extra));
    }

    private static void sell(TradeHall hall, int account, int kind, int price, int amount, int extra) {
        Check.is("sell", hall.count(1), () -> hall.order(account, 0, 1, kind, price, amount, extra));
    }

    private static void order(TradeHall hall, int order, int left, int shown, int state, int traded) {
        String name = "order " + order + ": ";
        Check.is(name + "left", left, () -> hall.about(order, 1));
        Check.is(name + "shown", shown, () -> hall.about(order, 2));
        Check.is(name + "state", state, () -> hall.about(order, 3));
        Check.is(name + "traded", traded, () -> hall.about(order, 5));
    }

    private static void trade(TradeHall hall, int i, int came, int rested, int price, int amount) {
        String name = "trade " + i + ": ";
        Check.is(name + "came", came, () -> hall.trade(i, 0));
        Check.is(name + "rested", rested, () -> hall.trade(i, 1));
        Check.is(name + "price", price, () -> hall.trade(i, 2));
        Check.is(name + "amount", amount, () -> hall.trade(i, 3));
    }

    private static void wrongNumbers() {
        TradeHall hall = richHall();
        Check.fails("account -1", INDEX, () -> hall.order(-1, 0, 9, 9, 0, 0, 0));
        Check.fails("account 512", INDEX, () -> hall.order(512, 0, 0, 0, 1, 1, 0));
        Check.fails("symbol -1", INDEX, () -> hall.order(1, -1, 0, 0, 1, 1, 0));
        Check.fails("symbol 4", INDEX, () -> hall.order(1, 4, 9, 0, 1, 1, 0));
        Check.fails("side -1", ARGUMENT, () -> hall.order(1, 0, -1, 0, 1, 1, 0));
        Check.fails("side 2", ARGUMENT, () -> hall.order(1, 0, 2, 0, 1, 1, 0));
        Check.fails("kind -1", ARGUMENT, () -> hall.order(1, 0, 0, -1, 1, 1, 1));
        Check.fails("kind 6", ARGUMENT, () -> hall.order(1, 0, 0, 6, 1, 1, 1));
        Check.fails("price 0", ARGUMENT, () -> hall.order(1, 0, 0, 0, 0, 1, 0));
        Check.fails("price 10001", ARGUMENT, () -> hall.order(1, 0, 0, 0, 10001, 1, 0));
        Check.fails("amount 0", ARGUMENT, () -> hall.order(1, 0, 0, 0, 1, 0, 0));
        Check.fails("amount 10001", ARGUMENT, () -> hall.order(1, 0, 0, 0, 1, 10001, 0));
        Check.fails("wrong numbers go before what is free", ARGUMENT, () -> hall.order(9, 0, 0, 0, 1, 10001, 0));
        for (int kind = LAYERED; kind <= STOP; kind++) {
            int k = kind;
            Check.fails("extra 0", ARGUMENT, () -> hall.order(1, 0, 0, k, 1, 1, 0));
            Check.fails("extra 10001", ARGUMENT, () -> hall.order(1, 0, 0, k, 1, 1, 10001));
        }
        Check.is("none was taken", 0, () -> hall.count(1));
        Check.is("none holds something", 0, () -> hall.cash(1, 1));
        for (int kind = PLAIN; kind <= QUIET; kind++) {
            buy(hall, 1, kind, 1, 1, Integer.MIN_VALUE);
        }
        buy(hall, 1, LAYERED, 1, 1, 1);
        buy(hall, 1, LAYERED, 1, 1, 10000);
        buy(hall, 1, STOP, 1, 1, 1);
        buy(hall, 1, STOP, 1, 1, 10000);
        buy(hall, 1, PLAIN, 10000, 10000, 0);
    }

    private static void notEnoughFree() {
        TradeHall hall = new TradeHall();
        hall.deposit(1, 100);
        hall.grant(1, 2, 10);
        Check.fails("one too dear", STATE, () -> hall.order(1, 0, 0, PLAIN, 101, 1, 0));
        Check.fails("far too dear", STATE, () -> hall.order(1, 0, 0, NOW, 10000, 10000, 0));
        Check.is("all cash", 0, () -> hall.order(1, 0, 0, PLAIN, 10, 10, 0));
        Check.fails("cash is held", STATE, () -> hall.order(1, 0, 0, PLAIN, 1, 1, 0));
        Check.fails("one share too many", STATE, () -> hall.order(1, 2, 1, PLAIN, 1, 11, 0));
        Check.fails("shares of another symbol", STATE, () -> hall.order(1, 1, 1, PLAIN, 1, 1, 0));
        Check.is("a stop holds shares at once", 1, () -> hall.order(1, 2, 1, STOP, 1, 10, 1));
        Check.fails("shares are held", STATE, () -> hall.order(1, 2, 1, WHOLE, 1, 1, 0));
        Check.is("two orders", 2, () -> hall.count(1));
        Check.is("held cash", 100, () -> hall.cash(1, 1));
        Check.is("held shares", 10, () -> hall.shares(1, 2, 1));
    }

    private static void tooManyThere() {
        TradeHall hall = richHall();
        for (int i = 0; i < 99; i++) {
            Check.is("an order", i, () -> hall.order(1, 0, 0, PLAIN, 10, 1, 0));
        }
        Check.is("a stop is there, too", 99, () -> hall.order(1, 1, 0, STOP, 10, 1, 10));
        Check.is("there", 100, () -> hall.count(2));
        Check.fails("one more that would rest", STATE, () -> hall.order(2, 2, 0, PLAIN, 10, 1, 0));
        Check.fails("one more that would trade", STATE, () -> hall.order(2, 0, 1, NOW, 10, 1, 0));
        Check.is("the stop goes", 1, () -> hall.cancel(1, 99));
        Check.is("one more that trades", 100, () -> hall.order(2, 0, 1, NOW, 10, 2, 0));
        Check.is("there", 97, () -> hall.count(2));
    }

    private static void priceThenTurn() {
        TradeHall hall = richHall();
        sell(hall, 2, PLAIN, 12, 5, 0);
        sell(hall, 3, PLAIN, 10, 5, 0);
        sell(hall, 2, PLAIN, 10, 5, 0);
        sell(hall, 4, PLAIN, 13, 5, 0);
        buy(hall, 1, PLAIN, 12, 18, 0);
        trade(hall, 0, 4, 1, 10, 5);
        trade(hall, 1, 4, 2, 10, 5);
        trade(hall, 2, 4, 0, 12, 5);
        Check.is("three trades", 3, () -> hall.count(0));
        order(hall, 4, 3, 3, 0, 15);
        order(hall, 3, 5, 5, 0, 0);
        order(hall, 0, 0, 0, 2, 5);
        buy(hall, 2, PLAIN, 11, 4, 0);
        sell(hall, 3, PLAIN, 11, 5, 0);
        trade(hall, 3, 6, 4, 12, 3);
        trade(hall, 4, 6, 5, 11, 2);
        order(hall, 5, 2, 2, 0, 2);
        order(hall, 6, 0, 0, 2, 5);
    }

    private static void ownAccount() {
        TradeHall hall = richHall();
        sell(hall, 2, PLAIN, 10, 4, 0);
        sell(hall, 1, PLAIN, 10, 4, 0);
        sell(hall, 3, PLAIN, 10, 4, 0);
        buy(hall, 1, PLAIN, 11, 10, 0);
        order(hall, 3, 0, 0, 3, 4);
        order(hall, 1, 4, 4, 0, 0);
        order(hall, 2, 4, 4, 0, 0);
        Check.is("nothing is held for what was cancelled", 0, () -> hall.cash(1, 1));
        buy(hall, 1, PLAIN, 9, 10, 0);
        order(hall, 4, 10, 10, 0, 0);
    }

    private static void now() {
        TradeHall hall = richHall();
        buy(hall, 1, NOW, 10, 5, 0);
        order(hall, 0, 0, 0, 3, 0);
        buy(hall, 1, PLAIN, 10, 5, 0);
        sell(hall, 2, NOW, 10, 8, 0);
        order(hall, 2, 0, 0, 3, 5);
        Check.is("nothing is held", 0, () -> hall.shares(2, 0, 1));
        buy(hall, 1, PLAIN, 10, 5, 0);
        sell(hall, 2, NOW, 11, 5, 0);
        order(hall, 4, 0, 0, 3, 0);
        sell(hall, 2, NOW, 10, 5, 0);
        order(hall, 5, 0, 0, 2, 5);
        Check.is("none is there", 0, () -> hall.count(2));
    }

    private static void whole() {
        TradeHall hall = richHall();
        sell(hall, 2, PLAIN, 10, 4, 0);
        sell(hall, 3, PLAIN, 11, 4, 0);
        sell(hall, 1, PLAIN, 11, 4, 0);
        buy(hall, 4, WHOLE, 10, 5, 0);
        order(hall, 3, 0, 0, 3, 0);
        buy(hall, 4, WHOLE, 11, 13, 0);
        order(hall, 4, 0, 0, 3, 0);
        buy(hall, 1, WHOLE, 11, 9, 0);
        order(hall, 5, 0, 0, 3, 0);
        Check.is("no trade", 0, () -> hall.count(0));
        Check.is("nothing is held", 0, () -> hall.cash(4, 1));
        buy(hall, 1, WHOLE, 11, 8, 0);
        order(hall, 6, 0, 0, 2, 8);
        buy(hall, 4, WHOLE, 11, 4, 0);
        order(hall, 7, 0, 0, 2, 4);
        Check.is("the book is empty", 0, () -> hall.depth(0, 1, 0));
    }

    private static void wholeAmongLayers() {
        TradeHall hall = richHall();
        buy(hall, 2, LAYERED, 20, 30, 7);
        buy(hall, 1, PLAIN, 20, 5, 0);
        sell(hall, 1, WHOLE, 20, 8, 0);
        order(hall, 2, 0, 0, 3, 0);
        sell(hall, 3, WHOLE, 20, 36, 0);
        order(hall, 3, 0, 0, 3, 0);
        sell(hall, 1, WHOLE, 20, 7, 0);
        order(hall, 4, 0, 0, 2, 7);
        sell(hall, 1, WHOLE, 20, 1, 0);
        order(hall, 5, 0, 0, 3, 0);
        sell(hall, 3, WHOLE, 20, 28, 0);
        order(hall, 6, 0, 0, 2, 28);
        Check.is("trades", 6, () -> hall.count(0));
    }

    private static void quiet() {
        TradeHall hall = richHall();
        sell(hall, 2, QUIET, 10, 4, 0);
        order(hall, 0, 4, 4, 0, 0);
        buy(hall, 1, QUIET, 10, 4, 0);
        order(hall, 1, 0, 0, 3, 0);
        buy(hall, 2, QUIET, 11, 4, 0);
        order(hall, 2, 0, 0, 3, 0);
        buy(hall, 1, QUIET, 9, 4, 0);
        order(hall, 3, 4, 4, 0, 0);
        sell(hall, 3, QUIET, 9, 4, 0);
        order(hall, 4, 0, 0, 3, 0);
        Check.is("no trade", 0, () -> hall.count(0));
    }

    private static void layered() {
        TradeHall hall = richHall();
        buy(hall, 1, LAYERED, 10, 20, 6);
        order(hall, 0, 20, 6, 0, 0);
        buy(hall, 2, PLAIN, 10, 5, 0);
        sell(hall, 3, PLAIN, 10, 4, 0);
        order(hall, 0, 16, 2, 0, 4);
        sell(hall, 3, PLAIN, 10, 3, 0);
        trade(hall, 1, 3, 0, 10, 2);
        trade(hall, 2, 3, 1, 10, 1);
        order(hall, 0, 14, 6, 0, 6);
        Check.is("it went behind", 4, () -> hall.ahead(0));
        sell(hall, 3, PLAIN, 10, 12, 0);
        trade(hall, 3, 4, 1, 10, 4);
        trade(hall, 4, 4, 0, 10, 6);
        trade(hall, 5, 4, 0, 10, 2);
        order(hall, 0, 6, 4, 0, 14);
        sell(hall, 3, LAYERED, 10, 26, 7);
        trade(hall, 6, 5, 0, 10, 4);
        trade(hall, 7, 5, 0, 10, 2);
        order(hall, 0, 0, 0, 2, 20);
        order(hall, 5, 20, 7, 0, 6);
    }

    private static void stops() {
        TradeHall hall = richHall();
        buy(hall, 1, STOP, 30, 10, 20);
        sell(hall, 1, STOP, 5, 10, 10);
        order(hall, 0, 10, 0, 1, 0);
        Check.is("a stop holds cash", 300, () -> hall.cash(1, 1));
        Check.is("no stop stands in a book", 0, () -> hall.depth(0, 0, 0) + hall.depth(0, 1, 0));
        sell(hall, 2, PLAIN, 19, 1, 0);
        buy(hall, 3, PLAIN, 19, 1, 0);
        order(hall, 0, 10, 0, 1, 0);
        sell(hall, 2, PLAIN, 11, 1, 0);
        buy(hall, 3, PLAIN, 11, 1, 0);
        order(hall, 1, 10, 0, 1, 0);
        sell(hall, 2, PLAIN, 20, 1, 0);
        buy(hall, 3, PLAIN, 20, 1, 0);
        order(hall, 0, 10, 10, 0, 0);
        Check.is("as a plain one it rests", 30, () -> hall.best(0, 0));
        Check.is("of another symbol nothing woke", 0, () -> hall.symbol(1, 0));
        hall.cancel(1, 0);
        sell(hall, 2, PLAIN, 10, 1, 0);
        buy(hall, 3, PLAIN, 10, 1, 0);
        order(hall, 1, 10, 10, 0, 0);
        int other = hall.order(1, 1, 0, STOP, 5, 5, 1);
        order(hall, other, 5, 0, 1, 0);
        sell(hall, 2, STOP, 40, 3, 10);
        order(hall, other + 1, 3, 3, 0, 0);
    }

    private static void stopsWakeStops() {
        TradeHall hall = richHall();
        buy(hall, 1, STOP, 12, 2, 11);
        buy(hall, 2, STOP, 13, 2, 12);
        buy(hall, 3, STOP, 20, 2, 13);
        sell(hall, 4, PLAIN, 11, 1, 0);
        sell(hall, 4, PLAIN, 12, 2, 0);
        sell(hall, 4, PLAIN, 13, 1, 0);
        buy(hall, 3, NOW, 11, 1, 0);
        trade(hall, 0, 6, 3, 11, 1);
        trade(hall, 1, 0, 4, 12, 2);
        trade(hall, 2, 1, 5, 13, 1);
        order(hall, 0, 0, 0, 2, 2);
        order(hall, 1, 1, 1, 0, 1);
        order(hall, 2, 2, 2, 0, 0);
        Check.is("the last price", 13, () -> hall.symbol(0, 0));
    }

    private static void stopsByNumber() {
        TradeHall hall = richHall();
        buy(hall, 1, STOP, 30, 1, 15);
        buy(hall, 2, STOP, 30, 1, 20);
        sell(hall, 3, STOP, 1, 1, 15);
        buy(hall, 4, STOP, 30, 1, 10);
        sell(hall, 4, PLAIN, 10, 1, 0);
        sell(hall, 1, PLAIN, 20, 1, 0);
        buy(hall, 2, PLAIN, 10, 1, 0);
        // 10 wakes 2 (which rests) before 3; 3 trades with it at 1, and then no other may.
        trade(hall, 0, 6, 4, 10, 1);
        trade(hall, 1, 3, 2, 1, 1);
        Check.is("two trades", 2, () -> hall.count(0));
        order(hall, 0, 1, 0, 1, 0);
        buy(hall, 3, PLAIN, 20, 1, 0);
        // 20 wakes 0 and then 1.
        order(hall, 0, 1, 1, 0, 0);
        order(hall, 1, 1, 1, 0, 0);
        Check.is("0 stands before 1", 1, () -> hall.ahead(1));
        sell(hall, 1, STOP, 30, 2, 20);
        order(hall, 8, 0, 0, 3, 0);
    }
}
