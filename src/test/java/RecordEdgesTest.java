/** The boundaries that promises 17 to 20 name, sentence by sentence. */
public final class RecordEdgesTest {
    /** Accounts 1 to 4 with plenty of cash and of shares of the symbols 0 and 3. */
    private static final String RICH = """
        deposit 1 1000000000
        deposit 2 1000000000
        deposit 3 1000000000
        deposit 4 1000000000
        grant 1 0 1000000
        grant 2 0 1000000
        grant 3 0 1000000
        grant 4 0 1000000
        grant 1 3 1000000
        grant 2 3 1000000
        """;

    /** Orders 0 and 1 make the trades 0 to 298, of one share each, at 10. */
    private static final String TRADES_299 = RICH + """
        order 1 0 sells LAYERED 10 299 1 = 0
        order 2 0 buys PLAIN 10 299 0 = 1
        """;

    public static void main(String[] args) {
        count();
        accountsThatEverHad();
        trade();
        threeHundredTrades();
        figuresBehindThem();
        symbol();
        busiest();
        busiestOfMany();
        Check.end();
    }

    private static void holds(String words, String lines) {
        Sentence.holds(words, RICH + lines);
    }

    private static void count() {
        Sentence.holds("17: another what", """
            count LEAST = argument
            count -1 = argument
            count 0 = 0
            count 1 = 0
            count 2 = 0
            count 3 = 0
            count 4 = 0
            count 5 = argument
            count MOST = argument
            """);
        holds("17: each what for itself", """
            order 1 0 sells PLAIN 10 1 0
            order 2 0 buys PLAIN 10 5 0
            order 2 0 buys NOW 9 5 0
            order 2 0 buys STOP 9 5 100
            pass 7 = 0
            count 0 = 1
            count 1 = 4
            count 2 = 2
            count 3 = 4
            count 4 = 7
            count 5 = argument
            """);
        holds("17: orders that were taken, orders that are there", """
            order 1 0 buys NOW 10 1 0 = 0
            count 1 = 1
            count 2 = 0
            order 1 0 buys PLAIN 10 1 0 = 1
            count 1 = 2
            count 2 = 1
            order 1 0 sells STOP 10 1 5 = 2
            count 1 = 3
            count 2 = 2
            order 5 0 sells PLAIN 10 1 0 = state
            count 1 = 3
            cancel 1 2 = 1
            count 1 = 3
            count 2 = 1
            order 2 0 sells PLAIN 10 2 0 = 3
            count 1 = 4
            count 2 = 1
            until 2 3 1
            pass 1 = 1
            count 1 = 4
            count 2 = 0
            """);
        holds("17: how many trades there were, those behind the first 300, too", """
            count 0 = 0
            order 1 0 sells LAYERED 10 302 1 = 0
            count 0 = 0
            order 2 0 buys PLAIN 10 299 0 = 1
            count 0 = 299
            order 2 0 buys PLAIN 10 1 0 = 2
            count 0 = 300
            order 2 0 buys PLAIN 10 1 0 = 3
            count 0 = 301
            order 2 0 buys PLAIN 10 1 0 = 4
            count 0 = 302
            """);
    }

    private static void accountsThatEverHad() {
        Sentence.holds("17: accounts that ever had something", """
            count 3 = 0
            deposit 0 1
            count 3 = 1
            deposit 0 1
            grant 0 3 1
            count 3 = 1
            grant 511 0 1
            count 3 = 2
            grant 511 1 1
            deposit 511 1
            count 3 = 2
            withdraw 0 2 = 0
            count 3 = 2
            deposit 0 1
            count 3 = 2
            """);
        Sentence.holds("17: those of whom calls were refused never had something", """
            deposit 1 0 = argument
            deposit 1 1000000001 = argument
            grant 1 0 0 = argument
            grant 1 4 1 = index
            withdraw 1 1 = state
            order 1 0 buys PLAIN 10 1 0 = state
            count 3 = 0
            cash 1 0 = 0
            shares 1 0 0 = 0
            count 3 = 0
            """);
        Sentence.holds("17: one that sold and withdrew all had something still", """
            deposit 1 10
            grant 2 0 1
            order 2 0 sells PLAIN 10 1 0 = 0
            order 1 0 buys PLAIN 10 1 0 = 1
            withdraw 2 10 = 0
            count 3 = 2
            """);
        StringBuilder lines = new StringBuilder();
        for (int account = 511; account > 0; account--) {
            lines.append(account % 2 == 0 ? "deposit " + account + " 1\n" : "grant " + account + " 2 1\n");
        }
        Sentence.holds("17: as many accounts as calls can give something to", lines + "count 3 = 511\n");
    }

    private static void trade() {
        Sentence.holds("18: no such trade, the record being empty", """
            trade 0 0 = index
            trade -1 0 = index
            trade 299 3 = index
            deposit 1 100
            order 1 0 buys PLAIN 10 1 0
            trade 0 0 = index
            """);
        holds("18: no such trade", """
            order 1 0 sells PLAIN 10 5 0 = 0
            order 2 0 buys PLAIN 12 3 0 = 1
            order 2 3 buys PLAIN 20 4 0 = 2
            order 1 3 sells PLAIN 19 9 0 = 3
            trade LEAST 0 = index
            trade -1 0 = index
            trade 0 0 = 1
            trade 1 0 = 3
            trade 2 0 = index
            trade 300 0 = index
            trade MOST 0 = index
            """);
        holds("18: another what", """
            order 1 0 buys NOW 1 1 0 = 0
            order 1 0 sells PLAIN 10 5 0 = 1
            order 2 0 buys PLAIN 12 3 0 = 2
            trade 0 LEAST = argument
            trade 0 -1 = argument
            trade 0 0 = 2
            trade 0 1 = 1
            trade 0 2 = 10
            trade 0 3 = 3
            trade 0 4 = argument
            trade 0 MOST = argument
            """);
        holds("18: the exceptions in their order", """
            trade 0 4 = index
            order 1 0 sells PLAIN 10 5 0 = 0
            order 2 0 buys PLAIN 12 3 0 = 1
            trade -1 -1 = index
            trade 1 4 = index
            trade 0 4 = argument
            """);
        holds("18: the least and the greatest price and amount", """
            order 1 0 sells PLAIN 1 1 0 = 0
            order 2 0 buys PLAIN 1 1 0 = 1
            order 1 0 sells PLAIN 10000 10000 0 = 2
            order 2 0 buys PLAIN 10000 10000 0 = 3
            trade 0 2 = 1
            trade 0 3 = 1
            trade 1 2 = 10000
            trade 1 3 = 10000
            """);
    }

    private static void threeHundredTrades() {
        Sentence.holds("18: one of the first 300: the trade with the number 299 is the last one told", TRADES_299 + """
            trade 298 0 = 1
            trade 298 1 = 0
            trade 298 2 = 10
            trade 298 3 = 1
            trade 299 0 = index
            order 3 0 sells PLAIN 20 2 0 = 2
            order 4 0 buys PLAIN 25 2 0 = 3
            count 0 = 300
            trade 299 0 = 3
            trade 299 1 = 2
            trade 299 2 = 20
            trade 299 3 = 2
            trade 300 0 = index
            trade 299 4 = argument
            """);
        Sentence.holds("18: those behind the first 300 are not told, and change none of these", TRADES_299 + """
            order 3 0 sells PLAIN 20 2 0 = 2
            order 4 0 buys PLAIN 25 2 0 = 3
            order 3 0 sells PLAIN 30 4 0 = 4
            order 4 0 buys PLAIN 35 4 0 = 5
            count 0 = 301
            trade 300 0 = index
            trade 300 4 = index
            trade 301 0 = index
            trade 299 0 = 3
            trade 299 1 = 2
            trade 299 2 = 20
            trade 299 3 = 2
            trade 0 0 = 1
            trade 0 1 = 0
            trade 0 2 = 10
            trade 0 3 = 1
            """);
        holds("18: one order whose trades go beyond the first 300", """
            order 1 0 sells LAYERED 10 400 1 = 0
            order 2 0 buys PLAIN 10 400 0 = 1
            count 0 = 400
            trade 299 0 = 1
            trade 300 0 = index
            trade 399 0 = index
            trade 400 0 = index
            about 0 5 = 400
            about 1 5 = 400
            """);
    }

    private static void figuresBehindThem() {
        Sentence.holds("those behind them count, too", TRADES_299 + """
            order 3 0 sells PLAIN 20 2 0 = 2
            order 4 0 buys PLAIN 25 2 0 = 3
            symbol 0 0 = 20
            symbol 0 1 = 20
            symbol 0 2 = 10
            symbol 0 3 = 301
            order 3 0 sells PLAIN 30 400 0 = 4
            order 4 0 buys PLAIN 35 400 0 = 5
            count 0 = 301
            symbol 0 0 = 30
            symbol 0 1 = 30
            symbol 0 2 = 10
            symbol 0 3 = 701
            order 3 0 sells PLAIN 5 1 0 = 6
            order 4 0 buys PLAIN 35 1 0 = 7
            symbol 0 0 = 5
            symbol 0 1 = 30
            symbol 0 2 = 5
            symbol 0 3 = 702
            shares 3 0 3 = 403
            shares 4 0 2 = 403
            busiest 0 0 = 3
            busiest 0 1 = 4
            busiest 0 2 = 1
            busiest 0 3 = 2
            busiest 0 4 = index
            about 5 3 = 2
            about 7 5 = 1
            cash 4 0 = 999987955
            cash 3 0 = 1000012045
            """);
        Sentence.holds("those behind them are the first ones of another symbol", TRADES_299 + """
            order 1 3 sells PLAIN 7 2 0 = 2
            order 2 3 buys PLAIN 7 1 0 = 3
            symbol 3 2 = 7
            order 2 3 buys PLAIN 7 1 0 = 4
            count 0 = 301
            symbol 3 0 = 7
            symbol 3 1 = 7
            symbol 3 2 = 7
            symbol 3 3 = 2
            symbol 0 3 = 299
            busiest 3 0 = 1
            busiest 3 1 = 2
            busiest 3 2 = index
            """);
    }

    private static void symbol() {
        holds("19: no such symbol", """
            order 1 0 sells PLAIN 10 5 0
            order 2 0 buys PLAIN 12 3 0
            order 1 3 sells PLAIN 20 5 0
            order 2 3 buys PLAIN 22 4 0
            symbol LEAST 0 = index
            symbol -1 0 = index
            symbol 0 0 = 10
            symbol 1 0 = 0
            symbol 2 0 = 0
            symbol 3 0 = 20
            symbol 4 0 = index
            symbol MOST 0 = index
            """);
        holds("19: another what", """
            order 1 0 sells PLAIN 11 2 0
            order 2 0 buys PLAIN 11 2 0
            order 1 0 sells PLAIN 9 3 0
            order 2 0 buys PLAIN 11 3 0
            order 1 0 sells PLAIN 10 4 0
            order 2 0 buys PLAIN 11 4 0
            symbol 0 LEAST = argument
            symbol 0 -1 = argument
            symbol 0 0 = 10
            symbol 0 1 = 11
            symbol 0 2 = 9
            symbol 0 3 = 9
            symbol 0 4 = argument
            symbol 0 MOST = argument
            """);
        Sentence.holds("19: the exceptions in their order", """
            symbol -1 -1 = index
            symbol 4 4 = index
            symbol 3 4 = argument
            symbol 0 -1 = argument
            """);
        holds("19: 0 without a trade", """
            order 1 0 sells PLAIN 10 5 0
            order 2 0 buys PLAIN 9 5 0
            symbol 0 0 = 0
            symbol 0 1 = 0
            symbol 0 2 = 0
            symbol 0 3 = 0
            """);
        holds("19: of the least and the greatest price", """
            order 1 0 sells PLAIN 10000 1 0
            order 2 0 buys PLAIN 10000 1 0
            symbol 0 0 = 10000
            symbol 0 1 = 10000
            symbol 0 2 = 10000
            order 1 0 sells PLAIN 1 1 0
            order 2 0 buys PLAIN 1 1 0
            symbol 0 0 = 1
            symbol 0 1 = 10000
            symbol 0 2 = 1
            order 1 3 sells PLAIN 1 1 0
            order 2 3 buys PLAIN 10000 1 0
            symbol 3 1 = 1
            """);
        holds("19: as much as a run can trade", """
            50 x order 1 0 sells PLAIN 100 10000 0
            50 x order 2 0 buys PLAIN 100 10000 0
            symbol 0 3 = 500000
            shares 1 0 3 = 500000
            shares 2 0 2 = 500000
            """);
    }

    private static void busiest() {
        holds("20: no such symbol", """
            order 1 0 sells PLAIN 10 5 0
            order 2 0 buys PLAIN 12 3 0
            order 2 3 sells PLAIN 10 5 0
            order 1 3 buys PLAIN 12 3 0
            busiest LEAST 0 = index
            busiest -1 0 = index
            busiest 0 0 = 1
            busiest 3 0 = 1
            busiest 4 0 = index
            busiest MOST 0 = index
            """);
        holds("20: there are not so many", """
            busiest 0 0 = index
            order 1 0 sells PLAIN 10 5 0
            busiest 0 0 = index
            order 2 0 buys PLAIN 12 3 0
            busiest 0 LEAST = index
            busiest 0 -1 = index
            busiest 0 0 = 1
            busiest 0 1 = 2
            busiest 0 2 = index
            busiest 0 511 = index
            busiest 0 512 = index
            busiest 0 MOST = index
            busiest 1 0 = index
            busiest 3 0 = index
            """);
        holds("20: the most first, of the same the lesser account", """
            deposit 0 1000
            grant 511 0 100
            order 511 0 sells PLAIN 10 5 0
            order 0 0 buys PLAIN 10 5 0
            busiest 0 0 = 0
            busiest 0 1 = 511
            order 3 0 sells PLAIN 10 4 0
            order 2 0 buys PLAIN 10 4 0
            busiest 0 2 = 2
            busiest 0 3 = 3
            busiest 0 4 = index
            order 2 0 sells PLAIN 10 1 0
            order 4 0 buys PLAIN 10 1 0
            busiest 0 0 = 0
            busiest 0 1 = 2
            busiest 0 2 = 511
            busiest 0 3 = 3
            busiest 0 4 = 4
            order 4 0 buys PLAIN 10 5 0
            order 511 0 sells PLAIN 10 5 0
            busiest 0 0 = 511
            busiest 0 1 = 4
            busiest 0 2 = 0
            busiest 0 3 = 2
            busiest 0 4 = 3
            busiest 0 5 = index
            """);
        holds("20: by how much it bought and sold, both together", """
            order 1 0 sells PLAIN 10 3 0
            order 2 0 buys PLAIN 10 3 0
            order 2 0 sells PLAIN 10 3 0
            order 3 0 buys PLAIN 10 3 0
            busiest 0 0 = 2
            busiest 0 1 = 1
            busiest 0 2 = 3
            busiest 0 3 = index
            """);
    }

    private static void busiestOfMany() {
        StringBuilder lines = new StringBuilder(RICH).append("order 1 0 sells PLAIN 10 1000 0\n");
        for (int account = 511; account > 411; account--) {
            lines.append("deposit ").append(account).append(" 10\n");
            lines.append("order ").append(account).append(" 0 buys NOW 10 1 0\n");
        }
        Sentence.holds("20: only those that did, of many", lines + """
            busiest 0 0 = 1
            busiest 0 1 = 412
            busiest 0 2 = 413
            busiest 0 99 = 510
            busiest 0 100 = 511
            busiest 0 101 = index
            """);
    }
}
