import java.util.NoSuchElementException;

/**
 * An exchange of four symbols for 512 accounts. ../shared/DOC.md says what each call must do;
 * the words of its section 'Terms' are used here as they are used there.
 */
public final class TradeHall {
    public static final int NONE = -1;

    private static final int ACCOUNTS = 512;
    private static final int SYMBOLS = 4;
    private static final int SIDES = 2;
    private static final int BUYS = 0;

    private static final int NOW = 1;
    private static final int WHOLE = 2;
    private static final int QUIET = 3;
    private static final int LAYERED = 4;
    private static final int STOP = 5;

    private static final int RESTS = 0;
    private static final int WAITS = 1;
    private static final int TRADED = 2;
    private static final int CANCELLED = 3;
    /** Of an order that is trading just now; no call ever sees it. */
    private static final int COMING = 4;

    /** The bound of an order's price, amount and extra. */
    private static final int MOST_OF_ORDER = 10000;
    private static final int MOST_THERE = 100;
    /** An object is used for 512 calls, so no more orders than these can be taken. */
    private static final int MOST_TAKEN = 512;
    private static final int MOST_TRADES_TOLD = 300;
    private static final int MOST_PASSED = 1000000;
    private static final int MOST_CASH_MOVED = 1000000000;
    private static final long MOST_CASH = 1000000000000000L;
    private static final int MOST_SHARES_GRANTED = 1000000;
    private static final long MOST_SHARES = 1000000000L;

    private final Vault vault = new Vault();
    private final Tape tape = new Tape();
    private final Book[] books = new Book[SYMBOLS * SIDES];
    private final Order[] orders = new Order[MOST_TAKEN];
    private int taken;
    private int there;
    private int time;

    public TradeHall() {
        for (int i = 0; i < books.length; i++) {
            books[i] = new Book(i % SIDES);
        }
    }

    public long deposit(int account, int amount)
            throws IndexOutOfBoundsException, IllegalArgumentException, IllegalStateException {
        needAccount(account);
        needWithin(amount, 1, MOST_CASH_MOVED);
        if (vault.money[account] + amount > MOST_CASH) {
            throw new IllegalStateException("too much cash");
        }
        vault.welcome(account);
        vault.money[account] += amount;
        return vault.money[account];
    }

    public long withdraw(int account, int amount)
            throws IndexOutOfBoundsException, IllegalArgumentException, IllegalStateException {
        needAccount(account);
        needWithin(amount, 1, MOST_CASH_MOVED);
        if (amount > vault.freeMoney(account)) {
            throw new IllegalStateException("not so much cash is free");
        }
        vault.money[account] -= amount;
        return vault.money[account];
    }

    public int grant(int account, int symbol, int amount)
            throws IndexOutOfBoundsException, IllegalArgumentException, IllegalStateException {
        needAccount(account);
        needSymbol(symbol);
        needWithin(amount, 1, MOST_SHARES_GRANTED);
        int slot = Vault.slot(account, symbol);
        if ((long) vault.stock[slot] + amount > MOST_SHARES) {
            throw new IllegalStateException("too many shares");
        }
        vault.welcome(account);
        vault.stock[slot] += amount;
        return vault.stock[slot];
    }

    public int order(int account, int symbol, int side, int kind, int price, int amount, int extra)
            throws IndexOutOfBoundsException, IllegalArgumentException, IllegalStateException {
        needAccount(account);
        needSymbol(symbol);
        needSide(side);
        needWithin(kind, 0, STOP);
        needWithin(price, 1, MOST_OF_ORDER);
        needWithin(amount, 1, MOST_OF_ORDER);
        if (kind == LAYERED || kind == STOP) {
            needWithin(extra, 1, MOST_OF_ORDER);
        }
        if (there >= MOST_THERE || taken >= MOST_TAKEN) {
            throw new IllegalStateException("no room for one more order");
        }
        int layer = kind == LAYERED ? extra : MOST_OF_ORDER;
        Order coming = new Order(taken, account, symbol, side, price, amount, layer);
        if (!vault.canHold(coming)) {
            throw new IllegalStateException("not enough is free");
        }
        vault.hold(coming, amount);
        orders[taken] = coming;
        taken++;
        there++;
        enter(coming, kind, extra);
        wakeStops(symbol);
        return coming.number;
    }

    public int cancel(int account, int order)
            throws IndexOutOfBoundsException, IllegalArgumentException, IllegalStateException {
        Order told = needOwnOrder(account, order);
        needThere(told);
        return drop(told);
    }

    public int reduce(int account, int order, int less)
            throws IndexOutOfBoundsException, IllegalArgumentException, IllegalStateException {
        Order told = needOwnOrder(account, order);
        needAtLeast(less, 1);
        needThere(told);
        if (less >= told.left) {
            throw new IllegalStateException("not more than that is left");
        }
        vault.hold(told, -less);
        told.left -= less;
        told.shown = Math.min(told.shown, told.left);
        return told.left;
    }

    public void until(int account, int order, int time)
            throws IndexOutOfBoundsException, IllegalArgumentException, IllegalStateException {
        Order told = needOwnOrder(account, order);
        needAtLeast(time, 0);
        needThere(told);
        if (time != 0 && time <= this.time) {
            throw new IllegalStateException("that time is over");
        }
        told.end = time;
    }

    public int pass(int n) throws IllegalArgumentException {
        needWithin(n, 0, MOST_PASSED);
        time += n;
        int ended = 0;
        // Ending one order changes nothing for another, so which goes first can't be seen.
        for (int i = 0; i < taken; i++) {
            Order ending = orders[i];
            if (ending.isThere() && ending.end != 0 && ending.end <= time) {
                drop(ending);
                ended++;
            }
        }
        return ended;
    }

    public int best(int symbol, int side)
            throws IndexOutOfBoundsException, IllegalArgumentException, NoSuchElementException {
        needSymbol(symbol);
        needSide(side);
        Order first = book(symbol, side).first;
        if (first == null) {
            throw new NoSuchElementException("the book is empty");
        }
        return first.price;
    }

    public int depth(int symbol, int side, int price)
            throws IndexOutOfBoundsException, IllegalArgumentException {
        needSymbol(symbol);
        needSide(side);
        needWithin(price, 0, MOST_OF_ORDER);
        Book book = book(symbol, side);
        return price == 0 ? book.countPrices() : book.shownAt(price);
    }

    public int level(int symbol, int side, int i, int what)
            throws IndexOutOfBoundsException, IllegalArgumentException {
        needSymbol(symbol);
        // Below 0 there is no level on any side; above, only a book can tell, so the side goes first.
        if (i < 0) {
            throw new IndexOutOfBoundsException("no such level");
        }
        needSide(side);
        Order first = book(symbol, side).firstOfPrice(i);
        if (first == null) {
            throw new IndexOutOfBoundsException("no such level");
        }
        needWithin(what, 0, 2);
        if (what == 0) {
            return first.price;
        }
        return what == 1 ? Book.countFrom(first) : Book.leftFrom(first);
    }

    public int about(int order, int what) throws IndexOutOfBoundsException, IllegalArgumentException {
        Order told = needOrder(order);
        switch (what) {
            case 0:
                return told.account;
            case 1:
                return told.left;
            case 2:
                return told.shown;
            case 3:
                return told.state;
            case 4:
                return told.end;
            case 5:
                return told.traded;
            default:
                throw new IllegalArgumentException("no such what");
        }
    }

    public int ahead(int order) throws IndexOutOfBoundsException, NoSuchElementException {
        Order told = needOrder(order);
        if (told.state != RESTS) {
            throw new NoSuchElementException("it does not rest");
        }
        return Book.shownBefore(told);
    }

    public long cash(int account, int what) throws IndexOutOfBoundsException, IllegalArgumentException {
        needAccount(account);
        needWithin(what, 0, 1);
        return what == 0 ? vault.money[account] : vault.moneyHeld[account];
    }

    public int shares(int account, int symbol, int what)
            throws IndexOutOfBoundsException, IllegalArgumentException {
        needAccount(account);
        needSymbol(symbol);
        int slot = Vault.slot(account, symbol);
        switch (what) {
            case 0:
                return vault.stock[slot];
            case 1:
                return vault.stockHeld[slot];
            case 2:
                return vault.bought[slot];
            case 3:
                return vault.sold[slot];
            default:
                throw new IllegalArgumentException("no such what");
        }
    }

    public int count(int what) throws IllegalArgumentException {
        switch (what) {
            case 0:
                return tape.length;
            case 1:
                return taken;
            case 2:
                return there;
            case 3:
                return vault.guests;
            case 4:
                return time;
            default:
                throw new IllegalArgumentException("no such what");
        }
    }

    public int trade(int i, int what) throws IndexOutOfBoundsException, IllegalArgumentException {
        if (i < 0 || i >= tape.length || i >= MOST_TRADES_TOLD) {
            throw new IndexOutOfBoundsException("no such trade");
        }
        needWithin(what, 0, Tape.ROW - 1);
        return tape.rows[i * Tape.ROW + what];
    }

    public int symbol(int symbol, int what) throws IndexOutOfBoundsException, IllegalArgumentException {
        needSymbol(symbol);
        switch (what) {
            case 0:
                return tape.last[symbol];
            case 1:
                return tape.greatest[symbol];
            case 2:
                return tape.least[symbol];
            case 3:
                return tape.volume[symbol];
            default:
                throw new IllegalArgumentException("no such what");
        }
    }

    public int busiest(int symbol, int i) throws IndexOutOfBoundsException {
        needSymbol(symbol);
        if (i < 0 || i >= ACCOUNTS) {
            throw new IndexOutOfBoundsException("not so many accounts traded");
        }
        int account = NONE;
        for (int n = 0; n <= i; n++) {
            account = vault.nextBusiest(symbol, account);
            if (account == NONE) {
                throw new IndexOutOfBoundsException("not so many accounts traded");
            }
        }
        return account;
    }

    private static void needAccount(int account) {
        if (account < 0 || account >= ACCOUNTS) {
            throw new IndexOutOfBoundsException("no such account");
        }
    }

    private static void needSymbol(int symbol) {
        if (symbol < 0 || symbol >= SYMBOLS) {
            throw new IndexOutOfBoundsException("no such symbol");
        }
    }

    private static void needSide(int side) {
        if (side < 0 || side >= SIDES) {
            throw new IllegalArgumentException("no such side");
        }
    }

    private static void needAtLeast(int value, int least) {
        if (value < least) {
            throw new IllegalArgumentException("a number is not as said");
        }
    }

    private static void needWithin(int value, int least, int most) {
        if (value < least || value > most) {
            throw new IllegalArgumentException("a number is not as said");
        }
    }

    private Order needOrder(int number) {
        if (number < 0 || number >= taken) {
            throw new IndexOutOfBoundsException("no such order");
        }
        return orders[number];
    }

    private Order needOwnOrder(int account, int number) {
        needAccount(account);
        Order told = needOrder(number);
        if (told.account != account) {
            throw new IllegalArgumentException("it is of another account");
        }
        return told;
    }

    private static void needThere(Order told) {
        if (!told.isThere()) {
            throw new IllegalStateException("it is not there any more");
        }
    }

    private Book book(int symbol, int side) {
        return books[symbol * SIDES + side];
    }

    private Book otherBook(Order coming) {
        return book(coming.symbol, 1 - coming.side);
    }

    private void enter(Order coming, int kind, int extra) {
        if (kind == STOP) {
            coming.trigger = extra;
            coming.state = WAITS;
        } else if (kind == QUIET && otherBook(coming).allows(coming.price)) {
            drop(coming);
        } else if (kind == WHOLE && otherBook(coming).reach(coming) < coming.left) {
            drop(coming);
        } else {
            tradeAndStay(coming, kind != NOW);
        }
    }

    private void wakeStops(int symbol) {
        // Each turn makes one stop fewer, and no more than these can be there.
        for (int n = 0; n < MOST_THERE; n++) {
            Order stop = firstReadyStop(symbol);
            if (stop == null) {
                return;
            }
            stop.state = COMING;
            tradeAndStay(stop, true);
        }
    }

    private Order firstReadyStop(int symbol) {
        int last = tape.last[symbol];
        if (last == 0) {
            return null;
        }
        for (int i = 0; i < taken; i++) {
            Order stop = orders[i];
            if (stop.state == WAITS && stop.symbol == symbol && stop.isReadyAt(last)) {
                return stop;
            }
        }
        return null;
    }

    private void tradeAndStay(Order coming, boolean mayRest) {
        boolean stopped = tradeUntilStopped(coming);
        if (coming.left == 0) {
            leave(coming, TRADED);
        } else if (stopped || !mayRest) {
            drop(coming);
        } else {
            coming.state = RESTS;
            coming.showNext();
            book(coming.symbol, coming.side).insert(coming);
        }
    }

    /** Trades as long as the prices allow; says whether an order of the same account stood in the way. */
    private boolean tradeUntilStopped(Order coming) {
        Book other = otherBook(coming);
        // Each trade takes at least one of what is left, so there are no more trades than that.
        for (int n = 0; n < MOST_OF_ORDER; n++) {
            Order resting = other.first;
            if (coming.left == 0 || resting == null || !other.allows(coming.price)) {
                return false;
            }
            if (resting.account == coming.account) {
                return true;
            }
            exchange(coming, resting, other);
        }
        return false;
    }

    private void exchange(Order coming, Order resting, Book other) {
        int amount = Math.min(coming.left, resting.shown);
        tape.write(coming, resting, amount);
        if (coming.side == BUYS) {
            vault.settle(coming, resting, resting.price, amount);
        } else {
            vault.settle(resting, coming, resting.price, amount);
        }
        coming.give(amount);
        resting.give(amount);
        resting.shown -= amount;
        if (resting.left == 0) {
            leave(resting, TRADED);
        } else if (resting.shown == 0) {
            resting.showNext();
            other.unlink(resting);
            other.insert(resting);
        }
    }

    private int drop(Order gone) {
        int left = gone.left;
        vault.hold(gone, -left);
        gone.left = 0;
        leave(gone, CANCELLED);
        return left;
    }

    private void leave(Order gone, int state) {
        if (gone.state == RESTS) {
            book(gone.symbol, gone.side).unlink(gone);
        }
        gone.state = state;
        gone.shown = 0;
        there--;
    }

    /** One order, from its being taken on, also when it is not there any more. */
    private static final class Order {
        final int number;
        final int account;
        final int symbol;
        final int side;
        final int price;
        /** Where the vault has what its account has of its symbol. */
        final int slot;
        /** How much it shows at most at a time; of orders that are not LAYERED more than they can have. */
        final int layer;
        int trigger;
        int left;
        int shown;
        int traded;
        int end;
        int state = COMING;
        /** Its neighbours in a book; null while it does not rest. */
        Order before;
        Order behind;

        Order(int number, int account, int symbol, int side, int price, int amount, int layer) {
            this.number = number;
            this.account = account;
            this.symbol = symbol;
            this.side = side;
            this.price = price;
            this.slot = Vault.slot(account, symbol);
            this.left = amount;
            this.layer = layer;
        }

        boolean isThere() {
            return state == RESTS || state == WAITS;
        }

        boolean isReadyAt(int last) {
            return side == BUYS ? last >= trigger : last <= trigger;
        }

        boolean opensPrice() {
            return before == null || before.price != price;
        }

        void showNext() {
            shown = Math.min(layer, left);
        }

        void give(int amount) {
            left -= amount;
            traded += amount;
        }
    }

    /** The orders of a symbol and side that rest, as a chain from the first to the last. */
    private static final class Book {
        final int side;
        Order first;

        Book(int side) {
            this.side = side;
        }

        boolean isBetter(int price, int other) {
            return side == BUYS ? price > other : price < other;
        }

        /** Whether an order of the other side at this price may trade with the first one here. */
        boolean allows(int price) {
            return first != null && !isBetter(price, first.price);
        }

        void insert(Order coming) {
            Order last = null;
            Order next = first;
            while (next != null && !isBetter(coming.price, next.price)) {
                last = next;
                next = next.behind;
            }
            coming.before = last;
            coming.behind = next;
            if (last == null) {
                first = coming;
            } else {
                last.behind = coming;
            }
            if (next != null) {
                next.before = coming;
            }
        }

        void unlink(Order gone) {
            if (gone.before == null) {
                first = gone.behind;
            } else {
                gone.before.behind = gone.behind;
            }
            if (gone.behind != null) {
                gone.behind.before = gone.before;
            }
            gone.before = null;
            gone.behind = null;
        }

        /**
         * How much an order of the other side could trade here. At the price at which one of its own account
         * rests, only what is shown before that one counts: what is shown next stands behind it.
         */
        int reach(Order coming) {
            int passed = 0;
            int left = 0;
            int shown = 0;
            for (Order o = first; o != null && !isBetter(coming.price, o.price); o = o.behind) {
                if (o.opensPrice()) {
                    passed += left;
                    left = 0;
                    shown = 0;
                }
                if (o.account == coming.account) {
                    return passed + shown;
                }
                left += o.left;
                shown += o.shown;
            }
            return passed + left;
        }

        int countPrices() {
            int prices = 0;
            for (Order o = first; o != null; o = o.behind) {
                if (o.opensPrice()) {
                    prices++;
                }
            }
            return prices;
        }

        Order firstOfPrice(int i) {
            int prices = 0;
            for (Order o = first; o != null; o = o.behind) {
                if (o.opensPrice()) {
                    if (prices == i) {
                        return o;
                    }
                    prices++;
                }
            }
            return null;
        }

        int shownAt(int price) {
            int sum = 0;
            for (Order o = first; o != null; o = o.behind) {
                if (o.price == price) {
                    sum += o.shown;
                }
            }
            return sum;
        }

        static int countFrom(Order opening) {
            int orders = 0;
            for (Order o = opening; o != null && o.price == opening.price; o = o.behind) {
                orders++;
            }
            return orders;
        }

        static int leftFrom(Order opening) {
            int sum = 0;
            for (Order o = opening; o != null && o.price == opening.price; o = o.behind) {
                sum += o.left;
            }
            return sum;
        }

        static int shownBefore(Order resting) {
            int sum = 0;
            for (Order o = resting.before; o != null && o.price == resting.price; o = o.before) {
                sum += o.shown;
            }
            return sum;
        }
    }

    /** What the accounts have, what is held of it, and how much they traded. */
    private static final class Vault {
        final long[] money = new long[ACCOUNTS];
        final long[] moneyHeld = new long[ACCOUNTS];
        final int[] stock = new int[ACCOUNTS * SYMBOLS];
        final int[] stockHeld = new int[ACCOUNTS * SYMBOLS];
        final int[] bought = new int[ACCOUNTS * SYMBOLS];
        final int[] sold = new int[ACCOUNTS * SYMBOLS];
        final boolean[] welcomed = new boolean[ACCOUNTS];
        int guests;

        static int slot(int account, int symbol) {
            return account * SYMBOLS + symbol;
        }

        /** Who never had cash or shares given can't trade, so counting these is enough. */
        void welcome(int account) {
            if (!welcomed[account]) {
                welcomed[account] = true;
                guests++;
            }
        }

        long freeMoney(int account) {
            return money[account] - moneyHeld[account];
        }

        boolean canHold(Order coming) {
            if (coming.side == BUYS) {
                return (long) coming.price * coming.left <= freeMoney(coming.account);
            }
            return coming.left <= stock[coming.slot] - stockHeld[coming.slot];
        }

        /** Holds so much more for an order, or less if that is below 0. */
        void hold(Order owner, int more) {
            if (owner.side == BUYS) {
                moneyHeld[owner.account] += (long) owner.price * more;
            } else {
                stockHeld[owner.slot] += more;
            }
        }

        void settle(Order buyer, Order seller, int price, int amount) {
            hold(buyer, -amount);
            hold(seller, -amount);
            long paid = (long) price * amount;
            money[buyer.account] -= paid;
            money[seller.account] += paid;
            stock[buyer.slot] += amount;
            stock[seller.slot] -= amount;
            bought[buyer.slot] += amount;
            sold[seller.slot] += amount;
        }

        /** The account that comes next behind this one (NONE: the first of all), or NONE. */
        int nextBusiest(int symbol, int previous) {
            int found = NONE;
            int most = 0;
            for (int account = 0; account < ACCOUNTS; account++) {
                int busy = busyness(account, symbol);
                if (busy > most && comesBehind(account, previous, symbol)) {
                    found = account;
                    most = busy;
                }
            }
            return found;
        }

        private boolean comesBehind(int account, int previous, int symbol) {
            if (previous == NONE) {
                return true;
            }
            int busy = busyness(account, symbol);
            int bound = busyness(previous, symbol);
            return busy < bound || busy == bound && account > previous;
        }

        private int busyness(int account, int symbol) {
            int slot = slot(account, symbol);
            return bought[slot] + sold[slot];
        }
    }

    /** What was traded: the first trades one by one, and the figures of each symbol. */
    private static final class Tape {
        static final int ROW = 4;

        final int[] rows = new int[MOST_TRADES_TOLD * ROW];
        final int[] last = new int[SYMBOLS];
        final int[] greatest = new int[SYMBOLS];
        final int[] least = new int[SYMBOLS];
        final int[] volume = new int[SYMBOLS];
        int length;

        void write(Order coming, Order resting, int amount) {
            if (length < MOST_TRADES_TOLD) {
                int row = length * ROW;
                rows[row] = coming.number;
                rows[row + 1] = resting.number;
                rows[row + 2] = resting.price;
                rows[row + 3] = amount;
            }
            length++;
            int symbol = coming.symbol;
            int price = resting.price;
            least[symbol] = last[symbol] == 0 ? price : Math.min(least[symbol], price);
            greatest[symbol] = Math.max(greatest[symbol], price);
            last[symbol] = price;
            volume[symbol] += amount;
        }
    }
}
