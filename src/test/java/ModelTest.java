import java.util.Arrays;
import java.util.Random;

/** Long runs of calls, right and wrong ones, on TradeHall and on PlainHall: each answer must be the same. */
public final class ModelTest {
    private static final int CALLS = 512;
    private static final String[] NAMES = {
        "deposit", "withdraw", "grant", "order", "cancel", "reduce", "until", "pass", "best", "depth", "level",
        "about", "ahead", "cash", "shares", "count", "trade", "symbol", "busiest",
    };
    private static final int ORDER = 3;
    private static final int CANCEL = 4;
    private static final int REDUCE = 5;
    private static final int UNTIL = 6;
    /** How many calls of a method are made, of all calls. */
    private static final int[] WEIGHTS = {3, 1, 2, 60, 4, 4, 5, 2, 3, 4, 6, 12, 5, 4, 4, 3, 5, 4, 4};

    /** What sort of runs: how far prices, amounts and extras go, and how many accounts and symbols there are. */
    private static final int[][] SORTS = {
        {6, 12, 4, 3, 1},
        {30, 50, 20, 6, 2},
        {12, 10000, 3000, 5, 2},
        {4, 400, 2, 4, 1},
        {10000, 10000, 10000, 9, 4},
        {8, 9, 8, 2, 4},
    };
    private static final int[] ODD = {
        Integer.MIN_VALUE, -2, -1, 0, 1, 2, 3, 4, 5, 6, 7, 99, 100, 299, 300, 511, 512, 9999, 10000, 10001,
        1000000, 1000001, 1000000000, 1000000001, Integer.MAX_VALUE,
    };

    private final Random random;
    private final int[] sort;
    private final TradeHall hall = new TradeHall();
    private final PlainHall plain = new PlainHall();

    private ModelTest(int run) {
        random = new Random(run);
        sort = SORTS[run % SORTS.length];
    }

    public static void main(String[] args) {
        int runs = args.length > 0 ? Integer.parseInt(args[0]) : 600;
        for (int run = 0; run < runs; run++) {
            new ModelTest(run).play(run);
        }
        Check.end();
    }

    private void play(int run) {
        for (int i = 0; i < CALLS; i++) {
            int method = i < 2 * sort[3] ? 2 * (i % 2) : anyMethod();
            int[] a = numbers(method);
            if (i < 2 * sort[3]) {
                a[0] = i / 2;
            } else if (random.nextInt(25) == 0) {
                a[random.nextInt(length(method))] = ODD[random.nextInt(ODD.length)];
            }
            String due = answer(() -> onPlain(method, a));
            String got = answer(() -> new Call(NAMES[method], a).answer(hall));
            String call = NAMES[method] + Arrays.toString(Arrays.copyOf(a, length(method)));
            Check.same("run " + run + ", call " + i + ": " + call, due, got);
            if (!due.equals(got)) {
                return;
            }
        }
    }

    private int anyMethod() {
        int sum = Arrays.stream(WEIGHTS).sum();
        int at = random.nextInt(sum);
        int method = 0;
        while (at >= WEIGHTS[method]) {
            at -= WEIGHTS[method];
            method++;
        }
        return method;
    }

    private static int length(int method) {
        return new int[] {2, 2, 3, 7, 2, 3, 3, 1, 2, 3, 4, 2, 1, 2, 3, 1, 2, 2, 2}[method];
    }

    private int upTo(int most) {
        return 1 + random.nextInt(most);
    }

    private int price() {
        return upTo(sort[0]);
    }

    private int account() {
        return random.nextInt(sort[3]);
    }

    private int symbol() {
        return random.nextInt(sort[4]);
    }

    /** Mostly one of the latest, since of these more are there. */
    private int anyOrder() {
        int taken = plain.count(1);
        return taken == 0 ? 0 : Math.max(0, taken - 1 - random.nextInt(random.nextBoolean() ? 10 : taken));
    }

    private int[] numbers(int method) {
        int order = anyOrder();
        int what = random.nextInt(6);
        switch (method) {
            case 0:
            case 1:
                return new int[] {account(), method == 0 ? upTo(1000000000) : upTo(100000)};
            case 2:
                return new int[] {account(), symbol(), upTo(30000)};
            case ORDER:
                return anOrder();
            case CANCEL:
            case REDUCE:
            case UNTIL:
                return ofOrder(method, order);
            case 7:
                return new int[] {random.nextInt(6)};
            case 8:
                return new int[] {symbol(), random.nextInt(2)};
            case 9:
                return new int[] {symbol(), random.nextInt(2), random.nextInt(4) == 0 ? 0 : price()};
            case 10:
                return new int[] {symbol(), random.nextInt(2), random.nextInt(5), random.nextInt(3)};
            case 11:
                return new int[] {order, what};
            case 12:
                return new int[] {order};
            case 13:
                return new int[] {account(), random.nextInt(2)};
            case 14:
                return new int[] {account(), symbol(), random.nextInt(4)};
            case 15:
                return new int[] {random.nextInt(5)};
            case 16:
                return new int[] {random.nextInt(1 + Math.min(310, plain.count(0))), random.nextInt(4)};
            case 17:
                return new int[] {symbol(), random.nextInt(4)};
            default:
                return new int[] {symbol(), random.nextInt(sort[3])};
        }
    }

    private int[] anOrder() {
        int[] kinds = {0, 0, 0, 1, 2, 3, 4, 4, 5, 5};
        int kind = kinds[random.nextInt(kinds.length)];
        int extra = kind == 5 ? price() : upTo(sort[2]);
        return new int[] {account(), symbol(), random.nextInt(2), kind, price(), upTo(sort[1]), extra};
    }

    private int[] ofOrder(int method, int order) {
        boolean isKnown = order < plain.count(1) && random.nextInt(20) != 0;
        int account = isKnown ? plain.about(order, 0) : account();
        int number = method == REDUCE ? upTo(sort[1]) : Math.max(0, plain.count(4) + random.nextInt(9) - 1);
        return new int[] {account, order, number};
    }

    private static String answer(Check.Call call) {
        try {
            return String.valueOf(call.answer());
        } catch (RuntimeException e) {
            return e.getClass().getName();
        }
    }

    private long onPlain(int method, int[] a) {
        switch (method) {
            case 0: return plain.deposit(a[0], a[1]);
            case 1: return plain.withdraw(a[0], a[1]);
            case 2: return plain.grant(a[0], a[1], a[2]);
            case 3: return plain.order(a[0], a[1], a[2], a[3], a[4], a[5], a[6]);
            case 4: return plain.cancel(a[0], a[1]);
            case 5: return plain.reduce(a[0], a[1], a[2]);
            case 6: return plain.until(a[0], a[1], a[2]);
            case 7: return plain.pass(a[0]);
            case 8: return plain.best(a[0], a[1]);
            case 9: return plain.depth(a[0], a[1], a[2]);
            case 10: return plain.level(a[0], a[1], a[2], a[3]);
            case 11: return plain.about(a[0], a[1]);
            case 12: return plain.ahead(a[0]);
            case 13: return plain.cash(a[0], a[1]);
            case 14: return plain.shares(a[0], a[1], a[2]);
            case 15: return plain.count(a[0]);
            case 16: return plain.trade(a[0], a[1]);
            case 17: return plain.symbol(a[0], a[1]);
            default: return plain.busiest(a[0], a[1]);
        }
    }
}
