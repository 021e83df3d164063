/**
 * The limits of 10^15 CASH (promise 2) and of 10^9 SHARES (promise 4), and what comes behind an object's 512 calls.
 * So much can't come to an account in 512 calls, and what later calls answer is free; but the class keeps the limits
 * then, too, and throws nothing but what the document names.
 */
public final class LimitTest {
    private static final Class<IllegalArgumentException> ARGUMENT = IllegalArgumentException.class;
    private static final Class<IllegalStateException> STATE = IllegalStateException.class;

    public static void main(String[] args) {
        mostCash();
        mostShares();
        mostOrders();
        Check.end();
    }

    private static void mostCash() {
        TradeHall hall = new TradeHall();
        for (int i = 0; i < 999999; i++) {
            hall.deposit(1, 1000000000);
        }
        Check.is("one before the limit", 999999999999999L, () -> hall.deposit(1, 999999999));
        Check.fails("one too much", STATE, () -> hall.deposit(1, 2));
        Check.fails("far too much", STATE, () -> hall.deposit(1, 1000000000));
        Check.is("what was refused changed nothing", 999999999999999L, () -> hall.cash(1, 0));
        Check.is("2: it would not have more than 10^15", 1000000000000000L, () -> hall.deposit(1, 1));
        Check.fails("2: it would have more than 10^15", STATE, () -> hall.deposit(1, 1));
        Check.fails("wrong numbers go before it", ARGUMENT, () -> hall.deposit(1, 0));
        Check.fails("wrong numbers go before it", ARGUMENT, () -> hall.deposit(1, 1000000001));
        Check.is("what was refused changed nothing", 1000000000000000L, () -> hall.cash(1, 0));
        Check.is("another account has its own limit", 1, () -> hall.deposit(2, 1));
        hall.order(1, 0, 0, 0, 1, 10, 0);
        Check.fails("what is held counts, too", STATE, () -> hall.deposit(1, 1));
        Check.is("some goes", 999999999999990L, () -> hall.withdraw(1, 10));
        Check.fails("more than went", STATE, () -> hall.deposit(1, 11));
        Check.is("as much as went", 1000000000000000L, () -> hall.deposit(1, 10));
    }

    private static void mostShares() {
        TradeHall hall = new TradeHall();
        for (int i = 0; i < 999; i++) {
            hall.grant(1, 2, 1000000);
        }
        Check.is("one before the limit", 999999999, () -> hall.grant(1, 2, 999999));
        Check.fails("one too many", STATE, () -> hall.grant(1, 2, 2));
        Check.fails("far too many", STATE, () -> hall.grant(1, 2, 1000000));
        Check.is("what was refused changed nothing", 999999999, () -> hall.shares(1, 2, 0));
        Check.is("4: it would not have more than 10^9", 1000000000, () -> hall.grant(1, 2, 1));
        Check.fails("4: it would have more than 10^9", STATE, () -> hall.grant(1, 2, 1));
        Check.fails("wrong numbers go before it", ARGUMENT, () -> hall.grant(1, 2, 0));
        Check.fails("wrong numbers go before it", ARGUMENT, () -> hall.grant(1, 2, 1000001));
        Check.is("what was refused changed nothing", 1000000000, () -> hall.shares(1, 2, 0));
        Check.is("another symbol has its own limit", 1, () -> hall.grant(1, 1, 1));
        Check.is("another account has its own limit", 1, () -> hall.grant(2, 2, 1));
        hall.order(1, 2, 1, 0, 1, 10, 0);
        Check.fails("what is held counts, too", STATE, () -> hall.grant(1, 2, 1));
        hall.deposit(3, 10);
        hall.order(3, 2, 0, 0, 1, 10, 0);
        Check.fails("more than was sold", STATE, () -> hall.grant(1, 2, 11));
        Check.is("as many as were sold", 1000000000, () -> hall.grant(1, 2, 10));
    }

    private static void mostOrders() {
        TradeHall hall = new TradeHall();
        hall.deposit(1, 1000);
        for (int i = 0; i < 600; i++) {
            int number = i;
            try {
                Check.same("the number of order " + i, "" + i, "" + hall.order(1, 0, 0, 1, 1, 1, 0));
            } catch (IllegalStateException e) {
                Check.is("refused only behind 512 calls", 1, () -> number >= 511 ? 1 : 0);
            }
        }
        Check.is("nothing is held", 0, () -> hall.cash(1, 1));
    }
}
