/** Promises 17 (count), 18 (trade), 19 (symbol) and 20 (busiest). */
public final class RecordTest {
    private static final Class<IndexOutOfBoundsException> INDEX = IndexOutOfBoundsException.class;
    private static final Class<IllegalArgumentException> ARGUMENT = IllegalArgumentException.class;

    public static void main(String[] args) {
        count();
        trade();
        trades300();
        symbol();
        busiest();
        Check.end();
    }

    private static TradeHall richHall() {
        TradeHall hall = new TradeHall();
        for (int account = 1; account <= 5; account++) {
            hall.deposit(account, 1000000000);
            hall.grant(account, 0, 1000000);
            hall.grant(account, 1, 1000000);
        }
        return hall;
    }

    /** One account sells to another. */
    private static void sale(TradeHall hall, int seller, int buyer, int symbol, int price, int amount) {
        hall.order(seller, symbol, 1, 0, price, amount, 0);
        hall.order(buyer, symbol, 0, 0, price, amount, 0);
    }

    private static void counts(TradeHall hall, int trades, int taken, int there, int accounts, int time) {
        Check.is("trades", trades, () -> hall.count(0));
        Check.is("taken", taken, () -> hall.count(1));
        Check.is("there", there, () -> hall.count(2));
        Check.is("accounts", accounts, () -> hall.count(3));
        Check.is("TIME", time, () -> hall.count(4));
    }

    private static void count() {
        TradeHall hall = new TradeHall();
        hall.deposit(0, 50);
        hall.deposit(0, 50);
        hall.grant(0, 0, 5);
        hall.grant(511, 0, 5);
        counts(hall, 0, 0, 0, 2, 0);
        hall.withdraw(0, 100);
        hall.deposit(7, 100);
        counts(hall, 0, 0, 0, 3, 0);
        hall.order(511, 0, 1, 0, 10, 5, 0);
        hall.order(7, 0, 0, 0, 10, 3, 0);
        hall.order(7, 0, 0, 1, 9, 1, 0);
        hall.order(7, 0, 0, 5, 9, 1, 50);
        hall.pass(9);
        counts(hall, 1, 4, 2, 3, 9);
        Check.fails("what -1", ARGUMENT, () -> hall.count(-1));
        Check.fails("what 5", ARGUMENT, () -> hall.count(5));
    }

    private static void row(TradeHall hall, int i, int came, int rested, int price, int amount) {
        Check.is("came", came, () -> hall.trade(i, 0));
        Check.is("rested", rested, () -> hall.trade(i, 1));
        Check.is("price", price, () -> hall.trade(i, 2));
        Check.is("amount", amount, () -> hall.trade(i, 3));
    }

    private static void trade() {
        TradeHall hall = richHall();
        sale(hall, 1, 2, 0, 10, 5);
        sale(hall, 2, 1, 1, 20, 6);
        row(hall, 0, 1, 0, 10, 5);
        row(hall, 1, 3, 2, 20, 6);
        Check.fails("trade -1", INDEX, () -> hall.trade(-1, 0));
        Check.fails("trade 2, what 4", INDEX, () -> hall.trade(2, 4));
        Check.fails("what -1", ARGUMENT, () -> hall.trade(0, -1));
        Check.fails("what 4", ARGUMENT, () -> hall.trade(0, 4));
    }

    private static void trades300() {
        TradeHall hall = richHall();
        hall.order(1, 0, 1, 4, 10, 305, 1);
        hall.order(2, 0, 0, 0, 10, 299, 0);
        row(hall, 298, 1, 0, 10, 1);
        Check.fails("trade 299 so far", INDEX, () -> hall.trade(299, 0));
        hall.order(3, 0, 0, 0, 10, 6, 0);
        Check.is("all count", 305, () -> hall.count(0));
        row(hall, 299, 2, 0, 10, 1);
        Check.fails("trade 300", INDEX, () -> hall.trade(300, 0));
        Check.is("all of them were traded", 305, () -> hall.symbol(0, 3));
        hall.order(1, 1, 1, 4, 10, 10000, 1);
        hall.order(2, 1, 0, 2, 10, 10000, 0);
        Check.is("as many trades as one order can have", 10305, () -> hall.count(0));
        Check.is("it was traded wholly", 2, () -> hall.about(4, 3));
        row(hall, 299, 2, 0, 10, 1);
    }

    private static void figures(TradeHall hall, int symbol, int last, int greatest, int least, int amount) {
        Check.is("last", last, () -> hall.symbol(symbol, 0));
        Check.is("greatest", greatest, () -> hall.symbol(symbol, 1));
        Check.is("least", least, () -> hall.symbol(symbol, 2));
        Check.is("traded", amount, () -> hall.symbol(symbol, 3));
    }

    private static void symbol() {
        TradeHall hall = richHall();
        figures(hall, 0, 0, 0, 0, 0);
        sale(hall, 1, 2, 0, 20, 5);
        figures(hall, 0, 20, 20, 20, 5);
        sale(hall, 1, 2, 0, 30, 6);
        sale(hall, 1, 2, 0, 10, 7);
        sale(hall, 1, 2, 0, 15, 8);
        sale(hall, 1, 2, 1, 10000, 1);
        figures(hall, 0, 15, 30, 10, 26);
        figures(hall, 1, 10000, 10000, 10000, 1);
        figures(hall, 3, 0, 0, 0, 0);
        Check.fails("symbol -1", INDEX, () -> hall.symbol(-1, 0));
        Check.fails("symbol 4, what 4", INDEX, () -> hall.symbol(4, 4));
        Check.fails("what -1", ARGUMENT, () -> hall.symbol(0, -1));
        Check.fails("what 4", ARGUMENT, () -> hall.symbol(0, 4));
    }

    private static void ranks(TradeHall hall, int symbol, int[] due) {
        for (int n = 0; n < due.length; n++) {
            int i = n;
            Check.is("busiest " + i, due[i], () -> hall.busiest(symbol, i));
        }
        Check.fails("not so many", INDEX, () -> hall.busiest(symbol, due.length));
        Check.fails("not so many", INDEX, () -> hall.busiest(symbol, Integer.MAX_VALUE));
        Check.fails("below 0", INDEX, () -> hall.busiest(symbol, -1));
    }

    private static void busiest() {
        TradeHall hall = richHall();
        hall.deposit(0, 100000);
        hall.deposit(511, 100000);
        ranks(hall, 0, new int[] {});
        sale(hall, 4, 511, 0, 10, 5);
        ranks(hall, 0, new int[] {4, 511});
        sale(hall, 2, 0, 0, 10, 5);
        ranks(hall, 0, new int[] {0, 2, 4, 511});
        sale(hall, 511, 3, 0, 10, 2);
        ranks(hall, 0, new int[] {511, 0, 2, 4, 3});
        sale(hall, 1, 4, 0, 10, 9);
        ranks(hall, 0, new int[] {4, 1, 511, 0, 2, 3});
        sale(hall, 3, 5, 1, 10, 1);
        ranks(hall, 1, new int[] {3, 5});
        ranks(hall, 3, new int[] {});
        Check.fails("symbol -1", INDEX, () -> hall.busiest(-1, 0));
        Check.fails("symbol 4", INDEX, () -> hall.busiest(4, 0));
    }
}
