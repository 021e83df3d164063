/** Promises 1 (a new object), 2 (deposit), 3 (withdraw), 4 (grant), 15 (cash) and 16 (shares). */
public final class AccountsTest {
    private static final Class<IndexOutOfBoundsException> INDEX = IndexOutOfBoundsException.class;
    private static final Class<IllegalArgumentException> ARGUMENT = IllegalArgumentException.class;
    private static final Class<IllegalStateException> STATE = IllegalStateException.class;

    public static void main(String[] args) {
        newObject();
        deposit();
        withdraw();
        grant();
        cash();
        shares();
        Check.end();
    }

    private static void newObject() {
        TradeHall hall = new TradeHall();
        for (int what = 0; what <= 4; what++) {
            int w = what;
            Check.is("new: count " + w, 0, () -> hall.count(w));
        }
        for (int account : new int[] {0, 1, 255, 511}) {
            Check.is("new: cash", 0, () -> hall.cash(account, 0));
            Check.is("new: held cash", 0, () -> hall.cash(account, 1));
            for (int i = 0; i < 16; i++) {
                int symbol = i / 4;
                int what = i % 4;
                Check.is("new: shares", 0, () -> hall.shares(account, symbol, what));
            }
        }
        for (int i = 0; i < 4; i++) {
            int symbol = i;
            Check.is("new: no price to buy at", 0, () -> hall.depth(symbol, 0, 0));
            Check.is("new: no price to sell at", 0, () -> hall.depth(symbol, 1, 0));
            Check.is("new: no last price", 0, () -> hall.symbol(symbol, 0));
            Check.fails("new: nobody traded", INDEX, () -> hall.busiest(symbol, 0));
        }
        Check.fails("new: no trade", INDEX, () -> hall.trade(0, 0));
        Check.fails("new: no order", INDEX, () -> hall.about(0, 0));
        TradeHall other = new TradeHall();
        Check.is("deposit", 5, () -> hall.deposit(0, 5));
        Check.is("two objects share nothing", 0, () -> other.cash(0, 0));
    }

    private static void deposit() {
        TradeHall hall = new TradeHall();
        Check.is("deposit of the least", 1, () -> hall.deposit(0, 1));
        Check.is("deposit adds up", 1000000001L, () -> hall.deposit(0, 1000000000));
        Check.is("deposit goes beyond an int", 3000000001L, () -> {
            hall.deposit(0, 1000000000);
            return hall.deposit(0, 1000000000);
        });
        Check.is("deposit to the last account", 7, () -> hall.deposit(511, 7));
        Check.is("others have nothing of it", 0, () -> hall.cash(510, 0));
        Check.fails("deposit, account -1", INDEX, () -> hall.deposit(-1, 1));
        Check.fails("deposit, account 512", INDEX, () -> hall.deposit(512, 1));
        Check.fails("deposit, account and amount wrong", INDEX, () -> hall.deposit(512, 0));
        Check.fails("deposit of 0", ARGUMENT, () -> hall.deposit(1, 0));
        Check.fails("deposit below 0", ARGUMENT, () -> hall.deposit(1, Integer.MIN_VALUE));
        Check.fails("deposit of too much", ARGUMENT, () -> hall.deposit(1, 1000000001));
        Check.is("what threw changed nothing", 0, () -> hall.cash(1, 0));
        Check.is("who got nothing never had something", 2, () -> hall.count(3));
    }

    private static void withdraw() {
        TradeHall hall = new TradeHall();
        hall.deposit(3, 100);
        Check.is("withdraw", 99, () -> hall.withdraw(3, 1));
        Check.fails("withdraw more than there is", STATE, () -> hall.withdraw(3, 100));
        hall.order(3, 0, 0, 0, 7, 10, 0);
        Check.fails("withdraw more than is free", STATE, () -> hall.withdraw(3, 30));
        Check.is("withdraw all that is free", 70, () -> hall.withdraw(3, 29));
        Check.fails("withdraw what is held", STATE, () -> hall.withdraw(3, 1));
        hall.cancel(3, 0);
        Check.is("withdraw what was held", 0, () -> hall.withdraw(3, 70));
        Check.fails("withdraw, account -1", INDEX, () -> hall.withdraw(-1, 1));
        Check.fails("withdraw, account 512", INDEX, () -> hall.withdraw(512, -1));
        Check.fails("withdraw of 0", ARGUMENT, () -> hall.withdraw(3, 0));
        Check.fails("withdraw of too much at once", ARGUMENT, () -> hall.withdraw(3, 1000000001));
        Check.fails("withdraw of the most, with nothing there", STATE, () -> hall.withdraw(3, 1000000000));
    }

    private static void grant() {
        TradeHall hall = new TradeHall();
        Check.is("grant of the least", 1, () -> hall.grant(0, 0, 1));
        Check.is("grant adds up", 1000001, () -> hall.grant(0, 0, 1000000));
        Check.is("another symbol", 5, () -> hall.grant(0, 3, 5));
        Check.is("the last account", 6, () -> hall.grant(511, 3, 6));
        Check.is("the first account keeps its own", 5, () -> hall.shares(0, 3, 0));
        Check.fails("grant, account -1", INDEX, () -> hall.grant(-1, 0, 1));
        Check.fails("grant, account 512", INDEX, () -> hall.grant(512, 0, 1));
        Check.fails("grant, symbol -1", INDEX, () -> hall.grant(0, -1, 1));
        Check.fails("grant, symbol 4, amount 0", INDEX, () -> hall.grant(0, 4, 0));
        Check.fails("grant of 0", ARGUMENT, () -> hall.grant(0, 0, 0));
        Check.fails("grant of too many", ARGUMENT, () -> hall.grant(0, 0, 1000001));
        Check.is("what threw changed nothing", 1000001, () -> hall.shares(0, 0, 0));
    }

    private static void cash() {
        TradeHall hall = new TradeHall();
        hall.deposit(1, 1000);
        hall.grant(2, 0, 10);
        hall.order(1, 0, 0, 0, 20, 10, 0);
        hall.order(1, 1, 0, 5, 30, 5, 1);
        Check.is("cash stays while it is held", 1000, () -> hall.cash(1, 0));
        Check.is("orders and stops hold cash", 350, () -> hall.cash(1, 1));
        hall.order(2, 0, 1, 0, 15, 4, 0);
        Check.is("the buyer paid its own price", 920, () -> hall.cash(1, 0));
        Check.is("and holds the rest", 270, () -> hall.cash(1, 1));
        Check.is("the seller has it", 80, () -> hall.cash(2, 0));
        hall.order(2, 0, 1, 0, 25, 6, 0);
        hall.order(1, 0, 0, 0, 40, 6, 0);
        Check.is("a buyer that would have paid more paid less", 770, () -> hall.cash(1, 0));
        Check.is("and holds nothing for it", 270, () -> hall.cash(1, 1));
        Check.fails("cash, account -1", INDEX, () -> hall.cash(-1, 0));
        Check.fails("cash, account 512, what 2", INDEX, () -> hall.cash(512, 2));
        Check.fails("cash, what -1", ARGUMENT, () -> hall.cash(1, -1));
        Check.fails("cash, what 2", ARGUMENT, () -> hall.cash(1, 2));
    }

    private static void shares() {
        TradeHall hall = new TradeHall();
        hall.deposit(1, 1000);
        hall.grant(2, 2, 10);
        hall.order(2, 2, 1, 0, 5, 8, 0);
        Check.is("shares stay while they are held", 10, () -> hall.shares(2, 2, 0));
        Check.is("a selling order holds shares", 8, () -> hall.shares(2, 2, 1));
        Check.is("and no cash", 0, () -> hall.cash(2, 1));
        hall.order(1, 2, 0, 0, 5, 3, 0);
        Check.is("the seller has fewer", 7, () -> hall.shares(2, 2, 0));
        Check.is("and holds fewer", 5, () -> hall.shares(2, 2, 1));
        Check.is("the seller bought", 0, () -> hall.shares(2, 2, 2));
        Check.is("the seller sold", 3, () -> hall.shares(2, 2, 3));
        Check.is("the buyer has them", 3, () -> hall.shares(1, 2, 0));
        Check.is("of that symbol alone", 0, () -> hall.shares(1, 1, 0));
        Check.is("the buyer bought", 3, () -> hall.shares(1, 2, 2));
        Check.is("the buyer sold", 0, () -> hall.shares(1, 2, 3));
        Check.fails("shares, account 512", INDEX, () -> hall.shares(512, 0, 0));
        Check.fails("shares, account -1", INDEX, () -> hall.shares(-1, 0, 0));
        Check.fails("shares, symbol -1", INDEX, () -> hall.shares(0, -1, 0));
        Check.fails("shares, symbol 4, what 4", INDEX, () -> hall.shares(0, 4, 4));
        Check.fails("shares, what -1", ARGUMENT, () -> hall.shares(0, 0, -1));
        Check.fails("shares, what 4", ARGUMENT, () -> hall.shares(0, 0, 4));
    }
}
