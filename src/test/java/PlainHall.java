import java.util.ArrayList;
import java.util.List;
import java.util.NoSuchElementException;
import java.util.TreeSet;

/**
 * The document once more, written to be plain and not fast: what is held, shown in a book or traded by an account
 * is found anew from all orders and trades at each call, so that a sum kept wrongly in TradeHall shows.
 */
final class PlainHall {
    private static final class Item implements Cloneable {
        int number;
        int account;
        int symbol;
        int side;
        int kind;
        int price;
        int extra;
        int left;
        int shown;
        int traded;
        int end;
        int state;
        long turn;

        Item copy() {
            try {
                return (Item) clone();
            } catch (CloneNotSupportedException e) {
                throw new AssertionError(e);
            }
        }

        boolean isThere() {
            return state <= 1;
        }
    }

    private static final class Deal {
        Item came;
        Item rested;
        int amount;
    }

    private final long[] given = new long[512];
    private final int[][] granted = new int[512][4];
    private final TreeSet<Integer> known = new TreeSet<>();
    private final List<Item> items = new ArrayList<>();
    private final List<Deal> deals = new ArrayList<>();
    private int time = 0;
    private long turns = 0;

    private static void index(boolean fine) {
        if (!fine) {
            throw new IndexOutOfBoundsException();
        }
    }

    private static void argument(boolean fine) {
        if (!fine) {
            throw new IllegalArgumentException();
        }
    }

    private static void state(boolean fine) {
        if (!fine) {
            throw new IllegalStateException();
        }
    }

    private static void there(boolean fine) {
        if (!fine) {
            throw new NoSuchElementException();
        }
    }

    private static boolean in(int x, int least, int most) {
        return least <= x && x <= most;
    }

    private long money(int account) {
        long sum = given[account];
        for (Deal deal : deals) {
            long paid = (long) deal.rested.price * deal.amount;
            if (buyer(deal).account == account) {
                sum -= paid;
            }
            if (seller(deal).account == account) {
                sum += paid;
            }
        }
        return sum;
    }

    private long moneyHeld(int account) {
        long sum = 0;
        for (Item item : items) {
            if (item.isThere() && item.account == account && item.side == 0) {
                sum += (long) item.price * item.left;
            }
        }
        return sum;
    }

    private static Item buyer(Deal deal) {
        return deal.came.side == 0 ? deal.came : deal.rested;
    }

    private static Item seller(Deal deal) {
        return deal.came.side == 1 ? deal.came : deal.rested;
    }

    private int moved(int account, int symbol, int side) {
        int sum = 0;
        for (Deal deal : deals) {
            Item item = side == 0 ? buyer(deal) : seller(deal);
            if (item.account == account && item.symbol == symbol) {
                sum += deal.amount;
            }
        }
        return sum;
    }

    private int stock(int account, int symbol) {
        return granted[account][symbol] + moved(account, symbol, 0) - moved(account, symbol, 1);
    }

    private int stockHeld(int account, int symbol) {
        int sum = 0;
        for (Item item : items) {
            if (item.isThere() && item.account == account && item.symbol == symbol && item.side == 1) {
                sum += item.left;
            }
        }
        return sum;
    }

    private int countThere() {
        int n = 0;
        for (Item item : items) {
            n += item.isThere() ? 1 : 0;
        }
        return n;
    }

    private List<Item> book(int symbol, int side) {
        List<Item> book = new ArrayList<>();
        for (Item item : items) {
            if (item.state == 0 && item.symbol == symbol && item.side == side) {
                book.add(item);
            }
        }
        sort(book);
        return book;
    }

    private static void sort(List<Item> book) {
        book.sort((a, b) -> {
            int byPrice = a.side == 0 ? Integer.compare(b.price, a.price) : Integer.compare(a.price, b.price);
            return byPrice != 0 ? byPrice : Long.compare(a.turn, b.turn);
        });
    }

    long deposit(int account, int amount) {
        index(in(account, 0, 511));
        argument(in(amount, 1, 1000000000));
        state(money(account) + amount <= 1000000000000000L);
        given[account] += amount;
        known.add(account);
        return money(account);
    }

    long withdraw(int account, int amount) {
        index(in(account, 0, 511));
        argument(in(amount, 1, 1000000000));
        state(money(account) - moneyHeld(account) >= amount);
        given[account] -= amount;
        return money(account);
    }

    int grant(int account, int symbol, int amount) {
        index(in(account, 0, 511) && in(symbol, 0, 3));
        argument(in(amount, 1, 1000000));
        state(stock(account, symbol) + amount <= 1000000000);
        granted[account][symbol] += amount;
        known.add(account);
        return stock(account, symbol);
    }

    int order(int account, int symbol, int side, int kind, int price, int amount, int extra) {
        index(in(account, 0, 511) && in(symbol, 0, 3));
        argument(in(side, 0, 1) && in(kind, 0, 5) && in(price, 1, 10000) && in(amount, 1, 10000));
        argument(kind < 4 || in(extra, 1, 10000));
        if (side == 0) {
            state((long) price * amount <= money(account) - moneyHeld(account));
        } else {
            state(amount <= stock(account, symbol) - stockHeld(account, symbol));
        }
        state(countThere() < 100);
        Item item = new Item();
        item.number = items.size();
        item.account = account;
        item.symbol = symbol;
        item.side = side;
        item.kind = kind;
        item.price = price;
        item.left = amount;
        item.extra = extra;
        // While it trades it is neither resting nor a stop, and what it holds can't be asked for.
        item.state = 9;
        items.add(item);
        act(item);
        lookAtStops(symbol);
        return item.number;
    }

    private void act(Item item) {
        List<Item> others = book(item.symbol, 1 - item.side);
        if (item.kind == 5) {
            item.state = 1;
        } else if (item.kind == 3) {
            if (!others.isEmpty() && mayTrade(item, others.get(0))) {
                end(item, 3);
            } else {
                rest(item);
            }
        } else if (item.kind == 2) {
            List<Item> copies = new ArrayList<>();
            for (Item other : others) {
                copies.add(other.copy());
            }
            Item trial = item.copy();
            walk(trial, copies, new ArrayList<>());
            if (trial.left != 0) {
                end(item, 3);
            } else {
                walk(item, others, deals);
                end(item, 2);
            }
        } else {
            boolean stopped = walk(item, others, deals);
            if (item.left == 0) {
                end(item, 2);
            } else if (stopped || item.kind == 1) {
                end(item, 3);
            } else {
                rest(item);
            }
        }
    }

    private static boolean mayTrade(Item coming, Item resting) {
        return coming.side == 0 ? resting.price <= coming.price : resting.price >= coming.price;
    }

    /** Whether it was STOPPED. */
    private boolean walk(Item coming, List<Item> book, List<Deal> written) {
        while (coming.left > 0 && !book.isEmpty() && mayTrade(coming, book.get(0))) {
            Item first = book.get(0);
            if (first.account == coming.account) {
                return true;
            }
            Deal deal = new Deal();
            deal.came = coming;
            deal.rested = first;
            deal.amount = Math.min(coming.left, first.shown);
            written.add(deal);
            coming.left -= deal.amount;
            coming.traded += deal.amount;
            first.left -= deal.amount;
            first.shown -= deal.amount;
            first.traded += deal.amount;
            if (first.left == 0) {
                end(first, 2);
                book.remove(0);
            } else if (first.shown == 0) {
                first.shown = Math.min(first.extra, first.left);
                first.turn = turns++;
                sort(book);
            }
        }
        return false;
    }

    private void rest(Item item) {
        item.state = 0;
        item.turn = turns++;
        item.shown = item.kind == 4 ? Math.min(item.extra, item.left) : item.left;
    }

    private static void end(Item item, int state) {
        item.state = state;
        item.left = 0;
        item.shown = 0;
    }

    private int lastPrice(int symbol) {
        for (int i = deals.size() - 1; i >= 0; i--) {
            if (deals.get(i).came.symbol == symbol) {
                return deals.get(i).rested.price;
            }
        }
        return 0;
    }

    private void lookAtStops(int symbol) {
        boolean again = true;
        while (again) {
            again = false;
            int last = lastPrice(symbol);
            for (Item item : items) {
                boolean reached = item.side == 0 ? last >= item.extra : last <= item.extra;
                if (item.state == 1 && item.symbol == symbol && last != 0 && reached) {
                    item.kind = 0;
                    item.state = 9;
                    act(item);
                    again = true;
                    break;
                }
            }
        }
    }

    private Item own(int account, int order) {
        index(in(account, 0, 511) && in(order, 0, items.size() - 1));
        argument(items.get(order).account == account);
        return items.get(order);
    }

    int cancel(int account, int order) {
        Item item = own(account, order);
        state(item.isThere());
        int left = item.left;
        end(item, 3);
        return left;
    }

    int reduce(int account, int order, int less) {
        Item item = own(account, order);
        argument(less >= 1);
        state(item.isThere() && item.left > less);
        if (item.state == 0) {
            int hidden = item.left - item.shown;
            item.shown -= Math.max(0, less - hidden);
        }
        item.left -= less;
        return item.left;
    }

    int until(int account, int order, int end) {
        Item item = own(account, order);
        argument(end >= 0);
        state(item.isThere() && (end == 0 || end > time));
        item.end = end;
        return 0;
    }

    int pass(int n) {
        argument(in(n, 0, 1000000));
        int ended = 0;
        for (int target = time + n; true; ended++) {
            Item next = null;
            for (Item item : items) {
                boolean ends = item.isThere() && item.end != 0 && item.end <= target;
                if (ends && (next == null || item.end < next.end)) {
                    next = item;
                }
            }
            if (next == null) {
                time = target;
                return ended;
            }
            end(next, 3);
        }
    }

    int best(int symbol, int side) {
        index(in(symbol, 0, 3));
        argument(in(side, 0, 1));
        there(!book(symbol, side).isEmpty());
        return book(symbol, side).get(0).price;
    }

    private List<Integer> prices(int symbol, int side) {
        List<Integer> prices = new ArrayList<>();
        for (Item item : book(symbol, side)) {
            if (!prices.contains(item.price)) {
                prices.add(item.price);
            }
        }
        return prices;
    }

    int depth(int symbol, int side, int price) {
        index(in(symbol, 0, 3));
        argument(in(side, 0, 1) && in(price, 0, 10000));
        if (price == 0) {
            return prices(symbol, side).size();
        }
        return book(symbol, side).stream().filter(item -> item.price == price).mapToInt(item -> item.shown).sum();
    }

    int level(int symbol, int side, int i, int what) {
        index(in(symbol, 0, 3) && i >= 0);
        argument(in(side, 0, 1));
        List<Integer> prices = prices(symbol, side);
        index(i < prices.size());
        argument(in(what, 0, 2));
        int price = prices.get(i);
        int sum = 0;
        for (Item item : book(symbol, side)) {
            if (item.price == price) {
                sum += what == 1 ? 1 : item.left;
            }
        }
        return what == 0 ? price : sum;
    }

    int about(int order, int what) {
        index(in(order, 0, items.size() - 1));
        argument(in(what, 0, 5));
        Item item = items.get(order);
        return new int[] {item.account, item.left, item.shown, item.state, item.end, item.traded}[what];
    }

    int ahead(int order) {
        index(in(order, 0, items.size() - 1));
        Item item = items.get(order);
        there(item.state == 0);
        int sum = 0;
        for (Item other : book(item.symbol, item.side)) {
            sum += other.price == item.price && other.turn < item.turn ? other.shown : 0;
        }
        return sum;
    }

    long cash(int account, int what) {
        index(in(account, 0, 511));
        argument(in(what, 0, 1));
        return what == 0 ? money(account) : moneyHeld(account);
    }

    int shares(int account, int symbol, int what) {
        index(in(account, 0, 511) && in(symbol, 0, 3));
        argument(in(what, 0, 3));
        if (what >= 2) {
            return moved(account, symbol, what - 2);
        }
        return what == 0 ? stock(account, symbol) : stockHeld(account, symbol);
    }

    int count(int what) {
        argument(in(what, 0, 4));
        return new int[] {deals.size(), items.size(), countThere(), known.size(), time}[what];
    }

    int trade(int i, int what) {
        index(in(i, 0, Math.min(300, deals.size()) - 1));
        argument(in(what, 0, 3));
        Deal deal = deals.get(i);
        return new int[] {deal.came.number, deal.rested.number, deal.rested.price, deal.amount}[what];
    }

    int symbol(int symbol, int what) {
        index(in(symbol, 0, 3));
        argument(in(what, 0, 3));
        TreeSet<Integer> prices = new TreeSet<>();
        int sum = 0;
        for (Deal deal : deals) {
            if (deal.came.symbol == symbol) {
                prices.add(deal.rested.price);
                sum += deal.amount;
            }
        }
        if (prices.isEmpty()) {
            return 0;
        }
        return new int[] {lastPrice(symbol), prices.last(), prices.first(), sum}[what];
    }

    int busiest(int symbol, int i) {
        index(in(symbol, 0, 3));
        int[] busy = new int[512];
        for (Deal deal : deals) {
            if (deal.came.symbol == symbol) {
                busy[deal.came.account] += deal.amount;
                busy[deal.rested.account] += deal.amount;
            }
        }
        List<Integer> accounts = new ArrayList<>();
        for (int account = 0; account < 512; account++) {
            if (busy[account] > 0) {
                accounts.add(account);
            }
        }
        accounts.sort((a, b) -> Integer.compare(busy[b], busy[a]));
        index(in(i, 0, accounts.size() - 1));
        return accounts.get(i);
    }
}
