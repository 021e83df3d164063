/** Promises 6 (cancel), 7 (reduce), 8 (until) and 9 (pass). */
public final class KeepingTest {
    private static final Class<IndexOutOfBoundsException> INDEX = IndexOutOfBoundsException.class;
    private static final Class<IllegalArgumentException> ARGUMENT = IllegalArgumentException.class;
    private static final Class<IllegalStateException> STATE = IllegalStateException.class;

    public static void main(String[] args) {
        cancel();
        reduce();
        until();
        pass();
        Check.end();
    }

    /** Account 1 has a buying order 0, a stop 1 that sells, a layered selling order 2; order 3 was cancelled. */
    private static TradeHall hallWithOrders() {
        TradeHall hall = new TradeHall();
        hall.deposit(1, 10000);
        hall.grant(1, 0, 1000);
        hall.grant(2, 0, 1000);
        hall.order(1, 0, 0, 0, 10, 20, 0);
        hall.order(1, 0, 1, 5, 10, 30, 5);
        hall.order(1, 0, 1, 4, 50, 100, 8);
        hall.order(1, 0, 0, 1, 10, 1, 0);
        return hall;
    }

    private static void wrongOrders(String name, java.util.function.BiConsumer<Integer, Integer> call) {
        Check.fails(name + ", account -1", INDEX, () -> call.accept(-1, 0));
        Check.fails(name + ", account 512", INDEX, () -> call.accept(512, 0));
        Check.fails(name + ", order -1", INDEX, () -> call.accept(1, -1));
        Check.fails(name + ", order 4", INDEX, () -> call.accept(1, 4));
        Check.fails(name + ", another account", ARGUMENT, () -> call.accept(2, 0));
        Check.fails(name + ", another account, not there", ARGUMENT, () -> call.accept(2, 3));
        Check.fails(name + ", not there", STATE, () -> call.accept(1, 3));
    }

    private static void cancel() {
        TradeHall hall = hallWithOrders();
        wrongOrders("cancel", hall::cancel);
        Check.is("what threw changed nothing", 3, () -> hall.count(2));
        hall.order(2, 0, 1, 0, 10, 5, 0);
        Check.is("cancel tells what was left", 15, () -> hall.cancel(1, 0));
        Check.is("its state", 3, () -> hall.about(0, 3));
        Check.is("left", 0, () -> hall.about(0, 1));
        Check.is("shown", 0, () -> hall.about(0, 2));
        Check.is("what it traded stays", 5, () -> hall.about(0, 5));
        Check.is("nothing is held", 0, () -> hall.cash(1, 1));
        Check.is("the book is empty", 0, () -> hall.depth(0, 0, 0));
        Check.fails("cancel again", STATE, () -> hall.cancel(1, 0));
        Check.is("cancel of a stop", 30, () -> hall.cancel(1, 1));
        Check.is("cancel of a layered one tells all of it", 100, () -> hall.cancel(1, 2));
        Check.is("no shares are held", 0, () -> hall.shares(1, 0, 1));
        Check.is("none is there", 0, () -> hall.count(2));
        Check.fails("cancel of one that was traded wholly", STATE, () -> hall.cancel(2, 4));
    }

    private static void reduce() {
        TradeHall hall = hallWithOrders();
        wrongOrders("reduce", (account, order) -> hall.reduce(account, order, 1));
        wrongOrders("reduce, of far too much,", (account, order) -> hall.reduce(account, order, 100000));
        Check.fails("reduce by 0", ARGUMENT, () -> hall.reduce(1, 0, 0));
        Check.fails("reduce by 0, not there", ARGUMENT, () -> hall.reduce(1, 3, 0));
        Check.fails("reduce by less than 0", ARGUMENT, () -> hall.reduce(1, 0, Integer.MIN_VALUE));
        Check.fails("reduce by all", STATE, () -> hall.reduce(1, 0, 20));
        Check.fails("reduce by the most", STATE, () -> hall.reduce(1, 0, Integer.MAX_VALUE));
        Check.is("reduce to one", 1, () -> hall.reduce(1, 0, 19));
        Check.is("cash is free again", 10, () -> hall.cash(1, 1));
        Check.is("its state", 0, () -> hall.about(0, 3));
        Check.is("reduce of a stop", 25, () -> hall.reduce(1, 1, 5));
        Check.is("a stop shows nothing", 0, () -> hall.about(1, 2));
        Check.is("held shares", 125, () -> hall.shares(1, 0, 1));
        Check.is("reduce takes what is not shown", 9, () -> hall.reduce(1, 2, 91));
        Check.is("shown", 8, () -> hall.about(2, 2));
        Check.is("then what is shown", 5, () -> hall.reduce(1, 2, 4));
        Check.is("shown", 5, () -> hall.about(2, 2));
        hall.order(2, 0, 1, 0, 50, 7, 0);
        hall.reduce(1, 2, 1);
        Check.is("the turn stays", 0, () -> hall.ahead(2));
        Check.is("less is before the other", 4, () -> hall.ahead(4));
        Check.is("nothing was traded so", 0, () -> hall.about(2, 5));
    }

    private static void until() {
        TradeHall hall = hallWithOrders();
        wrongOrders("until", (account, order) -> hall.until(account, order, 5));
        Check.fails("until -1", ARGUMENT, () -> hall.until(1, 0, -1));
        Check.fails("until -1, not there", ARGUMENT, () -> hall.until(1, 3, -1));
        Check.fails("until 0, not there", STATE, () -> hall.until(1, 3, 0));
        hall.pass(10);
        Check.fails("until now", STATE, () -> hall.until(1, 0, 10));
        Check.fails("until a time that is over", STATE, () -> hall.until(1, 0, 1));
        Check.is("none so far", 0, () -> hall.about(0, 4));
        Check.done("until the next time", () -> hall.until(1, 0, 11));
        Check.is("it ends", 11, () -> hall.about(0, 4));
        Check.done("until the greatest time", () -> hall.until(1, 1, Integer.MAX_VALUE));
        Check.is("it ends", Integer.MAX_VALUE, () -> hall.about(1, 4));
        Check.done("until none", () -> hall.until(1, 0, 0));
        Check.is("it does not end", 0, () -> hall.about(0, 4));
        Check.is("pass", 0, () -> hall.pass(1000000));
    }

    private static void pass() {
        TradeHall hall = hallWithOrders();
        Check.fails("pass -1", ARGUMENT, () -> hall.pass(-1));
        Check.fails("pass 1000001", ARGUMENT, () -> hall.pass(1000001));
        Check.is("no time went", 0, () -> hall.count(4));
        hall.until(1, 0, 3);
        hall.until(1, 1, 3);
        hall.until(1, 2, 4);
        Check.is("pass 0", 0, () -> hall.pass(0));
        Check.is("pass 2", 0, () -> hall.pass(2));
        Check.is("pass 1", 2, () -> hall.pass(1));
        Check.is("TIME", 3, () -> hall.count(4));
        Check.is("a resting one ended", 3, () -> hall.about(0, 3));
        Check.is("a stop ended", 3, () -> hall.about(1, 3));
        Check.is("nothing is left", 0, () -> hall.about(0, 1));
        Check.is("cash is free", 0, () -> hall.cash(1, 1));
        Check.is("the last one stays", 0, () -> hall.about(2, 3));
        Check.is("pass by far", 1, () -> hall.pass(1000000));
        Check.is("shares are free", 0, () -> hall.shares(1, 0, 1));
        Check.is("none is there", 0, () -> hall.count(2));
        Check.is("TIME", 1000003, () -> hall.count(4));
        Check.is("pass without orders", 0, () -> hall.pass(1000000));
        hall.order(1, 0, 0, 0, 10, 5, 0);
        hall.until(1, 4, 2000010);
        hall.order(2, 0, 1, 0, 10, 5, 0);
        Check.is("one that is not there does not end", 0, () -> hall.pass(100));
        Check.is("and keeps its state", 2, () -> hall.about(4, 3));
    }
}
