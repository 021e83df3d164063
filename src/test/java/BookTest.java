import java.util.NoSuchElementException;

/** Promises 10 (best), 11 (depth), 12 (level), 13 (about) and 14 (ahead). */
public final class BookTest {
    private static final Class<IndexOutOfBoundsException> INDEX = IndexOutOfBoundsException.class;
    private static final Class<IllegalArgumentException> ARGUMENT = IllegalArgumentException.class;
    private static final Class<NoSuchElementException> NONE = NoSuchElementException.class;

    public static void main(String[] args) {
        best();
        depth();
        level();
        about();
        ahead();
        Check.end();
    }

    /** Symbol 1: orders 0 to 3 buy at 9, 10, 10, 8; 4 to 7 sell at 12, 11, 11, 13; 8 is a stop. */
    private static TradeHall hallWithBook() {
        TradeHall hall = new TradeHall();
        hall.deposit(1, 100000);
        hall.grant(2, 1, 100000);
        hall.order(1, 1, 0, 0, 9, 1, 0);
        hall.order(1, 1, 0, 0, 10, 2, 0);
        hall.order(1, 1, 0, 4, 10, 30, 4);
        hall.order(1, 1, 0, 3, 8, 8, 0);
        hall.order(2, 1, 1, 0, 12, 16, 0);
        hall.order(2, 1, 1, 4, 11, 64, 10);
        hall.order(2, 1, 1, 0, 11, 32, 0);
        hall.order(2, 1, 1, 0, 13, 128, 0);
        hall.order(2, 1, 1, 5, 11, 256, 1);
        return hall;
    }

    private static void best() {
        TradeHall hall = hallWithBook();
        Check.is("the greatest to buy", 10, () -> hall.best(1, 0));
        Check.is("the least to sell", 11, () -> hall.best(1, 1));
        Check.fails("an empty book", NONE, () -> hall.best(0, 0));
        Check.fails("an empty book", NONE, () -> hall.best(3, 1));
        Check.fails("symbol -1", INDEX, () -> hall.best(-1, 0));
        Check.fails("symbol 4, side 2", INDEX, () -> hall.best(4, 2));
        Check.fails("side -1", ARGUMENT, () -> hall.best(1, -1));
        Check.fails("side 2, of an empty book", ARGUMENT, () -> hall.best(0, 2));
        hall.cancel(1, 1);
        Check.is("another is at the price still", 10, () -> hall.best(1, 0));
        hall.cancel(1, 2);
        Check.is("the next one", 9, () -> hall.best(1, 0));
    }

    private static void depth() {
        TradeHall hall = hallWithBook();
        Check.is("prices to buy", 3, () -> hall.depth(1, 0, 0));
        Check.is("prices to sell", 3, () -> hall.depth(1, 1, 0));
        Check.is("shown at 10", 6, () -> hall.depth(1, 0, 10));
        Check.is("shown at 8", 8, () -> hall.depth(1, 0, 8));
        Check.is("shown at 11", 42, () -> hall.depth(1, 1, 11));
        Check.is("nobody buys at 11", 0, () -> hall.depth(1, 0, 11));
        Check.is("nobody sells at 10000", 0, () -> hall.depth(1, 1, 10000));
        Check.is("another symbol", 0, () -> hall.depth(0, 0, 0));
        Check.fails("symbol -1", INDEX, () -> hall.depth(-1, 0, 0));
        Check.fails("symbol 4, side 2, price -1", INDEX, () -> hall.depth(4, 2, -1));
        Check.fails("side -1", ARGUMENT, () -> hall.depth(1, -1, 0));
        Check.fails("side 2", ARGUMENT, () -> hall.depth(1, 2, 0));
        Check.fails("price -1", ARGUMENT, () -> hall.depth(1, 0, -1));
        Check.fails("price 10001", ARGUMENT, () -> hall.depth(1, 0, 10001));
    }

    private static void row(TradeHall hall, int side, int i, int price, int orders, int left) {
        Check.is("price", price, () -> hall.level(1, side, i, 0));
        Check.is("orders", orders, () -> hall.level(1, side, i, 1));
        Check.is("left", left, () -> hall.level(1, side, i, 2));
    }

    private static void level() {
        TradeHall hall = hallWithBook();
        row(hall, 0, 0, 10, 2, 32);
        row(hall, 0, 1, 9, 1, 1);
        row(hall, 0, 2, 8, 1, 8);
        row(hall, 1, 0, 11, 2, 96);
        row(hall, 1, 1, 12, 1, 16);
        row(hall, 1, 2, 13, 1, 128);
        Check.fails("level 3", INDEX, () -> hall.level(1, 0, 3, 0));
        Check.fails("level -1", INDEX, () -> hall.level(1, 0, -1, 0));
        Check.fails("level of an empty book", INDEX, () -> hall.level(0, 0, 0, 0));
        Check.fails("no such level goes before another what", INDEX, () -> hall.level(1, 0, 3, 9));
        Check.fails("symbol -1", INDEX, () -> hall.level(-1, 0, 0, 0));
        Check.fails("symbol 4", INDEX, () -> hall.level(4, 2, 0, 0));
        Check.fails("level -1 goes before side 2", INDEX, () -> hall.level(1, 2, -1, 0));
        Check.fails("side -1", ARGUMENT, () -> hall.level(1, -1, 0, 0));
        Check.fails("side 2", ARGUMENT, () -> hall.level(1, 2, 0, 0));
        Check.fails("what -1", ARGUMENT, () -> hall.level(1, 0, 0, -1));
        Check.fails("what 3", ARGUMENT, () -> hall.level(1, 0, 0, 3));
    }

    private static void row(TradeHall hall, int order, int[] due) {
        for (int i = 0; i < due.length; i++) {
            int what = i;
            Check.is("about " + order + ", what " + what, due[what], () -> hall.about(order, what));
        }
    }

    private static void about() {
        TradeHall hall = hallWithBook();
        hall.until(2, 5, 77);
        hall.until(2, 8, 88);
        row(hall, 2, new int[] {1, 30, 4, 0, 0, 0});
        row(hall, 5, new int[] {2, 64, 10, 0, 77, 0});
        row(hall, 8, new int[] {2, 256, 0, 1, 88, 0});
        hall.order(1, 1, 0, 1, 11, 45, 0);
        row(hall, 5, new int[] {2, 51, 7, 0, 77, 13});
        row(hall, 6, new int[] {2, 0, 0, 2, 0, 32});
        row(hall, 9, new int[] {1, 0, 0, 2, 0, 45});
        hall.order(1, 1, 0, 1, 11, 60, 0);
        row(hall, 10, new int[] {1, 0, 0, 3, 0, 51});
        Check.fails("order -1", INDEX, () -> hall.about(-1, 0));
        Check.fails("order 11", INDEX, () -> hall.about(11, 6));
        Check.fails("what -1", ARGUMENT, () -> hall.about(0, -1));
        Check.fails("what 6", ARGUMENT, () -> hall.about(0, 6));
    }

    private static void ahead() {
        TradeHall hall = hallWithBook();
        hall.order(2, 1, 1, 0, 11, 1, 0);
        Check.is("the first of its price", 0, () -> hall.ahead(5));
        Check.is("behind a layered one", 10, () -> hall.ahead(6));
        Check.is("behind two", 42, () -> hall.ahead(9));
        Check.is("better prices don't count", 0, () -> hall.ahead(4));
        Check.is("behind a buyer", 2, () -> hall.ahead(2));
        hall.cancel(2, 6);
        Check.is("what was cancelled does not count", 10, () -> hall.ahead(9));
        Check.fails("order -1", INDEX, () -> hall.ahead(-1));
        Check.fails("order 10", INDEX, () -> hall.ahead(10));
        Check.fails("a cancelled one", NONE, () -> hall.ahead(6));
        Check.fails("a stop", NONE, () -> hall.ahead(8));
    }
}
