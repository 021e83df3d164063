/** The document's promises hold for the last order, trade and share that 512 calls can bring as for the first. */
public final class ManyTest {
    /** Accounts 1 to 3 with plenty of cash, and with shares of the symbol 0. */
    private static final String RICH = """
        deposit 1 1000000000
        deposit 2 1000000000
        deposit 3 1000000000
        grant 1 0 1000000
        grant 2 0 1000000
        grant 3 0 1000000
        """;

    public static void main(String[] args) {
        lateOrders();
        lateKeeping();
        theLatestOrder();
        manyStops();
        manyForOneWhole();
        manyThatEnd();
        manyShares();
        manyTrades();
        fullBooks();
        Check.end();
    }

    private static void holds(String words, String lines) {
        Sentence.holds(words, RICH + lines);
    }

    private static void lateOrders() {
        holds("an order that is taken late does what its kind says", """
            460 x order 1 0 buys NOW 1 1 0
            order 2 0 sells LAYERED 10 10 3 = 460
            order 1 0 buys NOW 10 4 0 = 461
            about 460 1 = 6
            about 460 2 = 2
            order 3 0 buys STOP 12 5 11 = 462
            order 2 0 sells PLAIN 11 1 0 = 463
            about 462 3 = 1
            order 1 0 buys PLAIN 11 7 0 = 464
            about 460 3 = 2
            about 463 3 = 2
            about 464 3 = 2
            about 462 3 = 0
            best 0 buys = 12
            trade 0 0 = 461
            trade 5 0 = 464
            trade 5 1 = 463
            order 3 0 sells QUIET 12 5 0 = 465
            about 465 3 = 3
            order 2 0 sells WHOLE 12 6 0 = 466
            about 466 3 = 3
            order 2 0 sells WHOLE 12 5 0 = 467
            about 467 3 = 2
            about 462 3 = 2
            count 1 = 468
            count 2 = 0
            """);
    }

    private static void lateKeeping() {
        holds("an order that is taken late is reduced, cancelled and ends", """
            460 x order 1 0 buys NOW 1 1 0
            order 1 0 buys PLAIN 5 9 0 = 460
            order 2 0 buys QUIET 5 2 0 = 461
            order 3 0 sells STOP 5 3 4 = 462
            ahead 461 = 9
            reduce 1 460 4 = 5
            ahead 461 = 5
            until 2 461 7 = ok
            until 3 462 8 = ok
            about 461 4 = 7
            pass 6 = 0
            pass 1 = 1
            about 461 3 = 3
            pass 1 = 1
            about 462 3 = 3
            shares 3 0 1 = 0
            cancel 1 460 = 5
            cash 1 1 = 0
            count 2 = 0
            """);
    }

    private static void theLatestOrder() {
        Sentence.holds("the last order that may be asked for", """
            deposit 1 10
            508 x order 1 0 buys NOW 1 1 0
            order 1 0 buys PLAIN 1 3 0 = 508
            reduce 1 508 1 = 2
            about 508 1 = 2
            """);
        Sentence.holds("the last order that may be cancelled", """
            deposit 1 10
            509 x order 1 0 buys NOW 1 1 0
            order 1 0 buys PLAIN 1 3 0 = 509
            cancel 1 509 = 3
            """);
    }

    private static void manyStops() {
        holds("99 stops wake in one call, the first of them being the one that came", """
            order 2 0 sells PLAIN 10 1 0 = 0
            order 1 0 buys NOW 10 1 0 = 1
            98 x order 1 0 buys STOP 20 1 20
            order 2 0 sells PLAIN 20 1 0 = 100
            count 2 = 99
            order 3 0 buys STOP 20 1 10 = 101
            trade 1 0 = 101
            trade 1 2 = 20
            about 2 3 = 0
            about 98 3 = 0
            about 99 3 = 0
            ahead 99 = 97
            level 0 buys 0 1 = 98
            """);
    }

    private static void manyForOneWhole() {
        holds("WHOLE: one buys from all 99 others that may rest", """
            99 x order 2 0 sells PLAIN 10 100 0
            order 1 0 buys WHOLE 10 9901 0 = 99
            about 99 3 = 3
            order 1 0 buys WHOLE 10 9900 0 = 100
            about 100 3 = 2
            count 0 = 99
            trade 98 1 = 98
            """);
        StringBuilder lines = new StringBuilder();
        for (int i = 0; i < 99; i++) {
            lines.append("order 2 0 buys LAYERED ").append(100 + i).append(" 10 3\n");
        }
        holds("WHOLE: one sells at all 99 prices that there may be", lines + """
            order 1 0 sells WHOLE 100 991 0 = 99
            about 99 3 = 3
            order 1 0 sells WHOLE 101 990 0 = 100
            about 100 3 = 3
            order 1 0 sells WHOLE 100 990 0 = 101
            about 101 3 = 2
            symbol 0 1 = 198
            symbol 0 2 = 100
            """);
    }

    private static void manyThatEnd() {
        StringBuilder lines = new StringBuilder();
        for (int i = 0; i < 100; i++) {
            lines.append("order 1 0 buys ").append(i % 2 == 0 ? "PLAIN" : "STOP").append(" 10 1 20\n");
            lines.append("until 1 ").append(i).append(" ").append(100 - i).append("\n");
        }
        holds("100 orders end in one call", lines + """
            cash 1 1 = 1000
            pass 100 = 100
            count 2 = 0
            cash 1 1 = 0
            best 0 buys = none
            """);
        holds("100 orders end, one behind the other", lines + """
            25 x pass 1 = 1
            count 2 = 75
            pass 74 = 74
            about 0 3 = 0
            about 1 3 = 3
            pass 1 = 1
            count 2 = 0
            """);
    }

    private static void manyShares() {
        holds("more than a million are bought and sold", """
            deposit 0 1000000000
            grant 2 0 1000000
            99 x order 2 0 sells PLAIN 1 10000 0
            99 x order 1 0 buys NOW 1 10000 0
            50 x order 2 0 sells PLAIN 1 10000 0
            35 x order 1 0 buys NOW 1 10000 0
            15 x order 0 0 buys NOW 2 10000 0
            symbol 0 3 = 1490000
            shares 2 0 3 = 1490000
            shares 1 0 2 = 1340000
            shares 0 0 2 = 150000
            shares 0 0 0 = 150000
            shares 1 0 0 = 2340000
            shares 2 0 0 = 510000
            cash 1 0 = 998660000
            cash 2 0 = 1001490000
            busiest 0 0 = 2
            busiest 0 1 = 1
            busiest 0 2 = 0
            """);
        holds("who has much buys one more", """
            400 x grant 1 0 1000000
            order 2 0 sells PLAIN 1 1 0
            order 1 0 buys PLAIN 1 1 0
            shares 1 0 0 = 401000001
            shares 1 0 2 = 1
            """);
    }

    private static void manyTrades() {
        holds("those behind 300 trades count, too", """
            60 x order 2 0 sells LAYERED 1 10000 1
            60 x order 1 0 buys NOW 1 10000 0
            count 0 = 600000
            count 2 = 0
            symbol 0 3 = 600000
            trade 299 0 = 60
            trade 299 1 = 59
            trade 60 1 = 0
            trade 299 3 = 1
            trade 300 0 = index
            shares 1 0 2 = 600000
            shares 2 0 3 = 600000
            cash 2 0 = 1000600000
            """);
    }

    private static void fullBooks() {
        StringBuilder lines = new StringBuilder();
        for (int symbol = 0; symbol < 4; symbol++) {
            lines.append("grant 2 ").append(symbol).append(" 1000000\n");
            lines.append("12 x order 1 ").append(symbol).append(" buys LAYERED 9 7 2\n");
            lines.append("13 x order 2 ").append(symbol).append(" sells PLAIN 11 5 0\n");
        }
        for (int symbol = 0; symbol < 4; symbol++) {
            lines.append("depth ").append(symbol).append(" buys 9 = 24\n");
            lines.append("level ").append(symbol).append(" buys 0 2 = 84\n");
            lines.append("level ").append(symbol).append(" sells 0 2 = 65\n");
            lines.append("shares 2 ").append(symbol).append(" 1 = 65\n");
        }
        holds("100 orders are there in all books together", lines + """
            count 2 = 100
            cash 1 1 = 3024
            order 1 3 buys PLAIN 9 1 0 = state
            order 1 0 buys NOW 11 1 0 = state
            cancel 1 0 = 7
            order 1 3 buys NOW 11 66 0 = 100
            count 2 = 86
            about 100 5 = 65
            best 3 sells = none
            best 2 sells = 11
            """);
    }
}
