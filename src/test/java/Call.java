import java.util.Arrays;
import java.util.List;
import java.util.Map;
import java.util.NoSuchElementException;
import java.util.stream.Collectors;

/** One call of a hall, read from a text such as "order 1 0 buys PLAIN 10 20 0". */
record Call(String name, int[] numbers) {
    static final List<String> EXCEPTIONS = List.of("index", "argument", "state", "none");

    private static final Map<String, Integer> WORDS = Map.of(
        "buys", 0, "sells", 1, "PLAIN", 0, "NOW", 1, "WHOLE", 2, "QUIET", 3, "LAYERED", 4, "STOP", 5,
        "LEAST", Integer.MIN_VALUE, "MOST", Integer.MAX_VALUE);

    static Call of(String text) {
        String[] words = text.trim().split(" +");
        int[] numbers = new int[words.length - 1];
        for (int i = 0; i < numbers.length; i++) {
            String word = words[i + 1];
            numbers[i] = WORDS.containsKey(word) ? WORDS.get(word) : Integer.parseInt(word);
        }
        return new Call(words[0], numbers);
    }

    /** The number that the call answers, "ok" if it answers none, or the short word of what it throws. */
    String on(TradeHall hall) {
        try {
            long answer = answer(hall);
            return name.equals("until") ? "ok" : String.valueOf(answer);
        } catch (RuntimeException e) {
            return word(e);
        }
    }

    /** Only the very class counts, since what the machine throws is often a class below it. */
    private static String word(RuntimeException e) {
        if (e.getClass() == IndexOutOfBoundsException.class) {
            return "index";
        }
        if (e.getClass() == IllegalArgumentException.class) {
            return "argument";
        }
        if (e.getClass() == IllegalStateException.class) {
            return "state";
        }
        return e.getClass() == NoSuchElementException.class ? "none" : e.toString();
    }

    long answer(TradeHall hall) {
        int[] a = numbers;
        switch (name) {
            case "deposit": return hall.deposit(a[0], a[1]);
            case "withdraw": return hall.withdraw(a[0], a[1]);
            case "grant": return hall.grant(a[0], a[1], a[2]);
            case "order": return hall.order(a[0], a[1], a[2], a[3], a[4], a[5], a[6]);
            case "cancel": return hall.cancel(a[0], a[1]);
            case "reduce": return hall.reduce(a[0], a[1], a[2]);
            case "until":
                hall.until(a[0], a[1], a[2]);
                return 0;
            case "pass": return hall.pass(a[0]);
            case "best": return hall.best(a[0], a[1]);
            case "depth": return hall.depth(a[0], a[1], a[2]);
            case "level": return hall.level(a[0], a[1], a[2], a[3]);
            case "about": return hall.about(a[0], a[1]);
            case "ahead": return hall.ahead(a[0]);
            case "cash": return hall.cash(a[0], a[1]);
            case "shares": return hall.shares(a[0], a[1], a[2]);
            case "count": return hall.count(a[0]);
            case "trade": return hall.trade(a[0], a[1]);
            case "symbol": return hall.symbol(a[0], a[1]);
            case "busiest": return hall.busiest(a[0], a[1]);
            default: throw new AssertionError("there is no call " + name);
        }
    }

    @Override
    public String toString() {
        return name + Arrays.stream(numbers).mapToObj(String::valueOf).collect(Collectors.joining(", ", "(", ")"));
    }
}
