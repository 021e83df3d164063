/** The boundaries that promises 10 to 14 name, sentence by sentence. */
public final class BookEdgesTest {
    /** Symbol 1: orders 0 to 3 of account 1 buy at 9, 10, 10, 8; 4 to 7 of account 2 sell at 12, 11, 11, 13. */
    private static final String BOOKS = """
        deposit 1 100000
        grant 2 1 100000
        order 1 1 buys PLAIN 9 1 0 = 0
        order 1 1 buys PLAIN 10 2 0 = 1
        order 1 1 buys LAYERED 10 30 4 = 2
        order 1 1 buys QUIET 8 8 0 = 3
        order 2 1 sells PLAIN 12 16 0 = 4
        order 2 1 sells LAYERED 11 64 10 = 5
        order 2 1 sells PLAIN 11 32 0 = 6
        order 2 1 sells PLAIN 13 128 0 = 7
        """;

    public static void main(String[] args) {
        best();
        depth();
        level();
        levelsAtTheEnds();
        about();
        states();
        ahead();
        doesNotRest();
        Check.end();
    }

    private static void best() {
        Sentence.holds("10: no such symbol", BOOKS + """
            best LEAST buys = index
            best -1 buys = index
            best 0 buys = none
            best 1 buys = 10
            best 3 buys = none
            best 4 buys = index
            best MOST sells = index
            """);
        Sentence.holds("10: there is no such side", BOOKS + """
            best 1 LEAST = argument
            best 1 -1 = argument
            best 1 0 = 10
            best 1 1 = 11
            best 1 2 = argument
            best 1 MOST = argument
            """);
        Sentence.holds("10: the exceptions in their order", """
            best -1 -1 = index
            best 4 2 = index
            best 0 2 = argument
            best 3 -1 = argument
            best 3 1 = none
            """);
        Sentence.holds("10: there is none", """
            deposit 1 1000
            grant 2 0 10
            best 0 buys = none
            order 1 0 buys STOP 10 1 5 = 0
            best 0 buys = none
            order 1 0 buys NOW 10 1 0 = 1
            best 0 buys = none
            order 1 0 buys PLAIN 10 1 0 = 2
            best 0 buys = 10
            best 0 sells = none
            best 1 buys = none
            cancel 1 2 = 1
            best 0 buys = none
            order 1 0 buys PLAIN 10 1 0 = 3
            until 1 3 1
            pass 1 = 1
            best 0 buys = none
            cancel 1 0 = 1
            order 1 0 buys PLAIN 10 1 0 = 4
            order 2 0 sells PLAIN 10 2 0 = 5
            best 0 buys = none
            best 0 sells = 10
            """);
        Sentence.holds("10: the best price, of the least and the greatest", """
            deposit 1 100000
            grant 1 1 10
            order 1 0 buys PLAIN 1 1 0
            best 0 buys = 1
            order 1 0 buys PLAIN 10000 1 0
            best 0 buys = 10000
            order 1 1 sells PLAIN 10000 1 0
            best 1 sells = 10000
            order 1 1 sells PLAIN 1 1 0
            best 1 sells = 1
            """);
    }

    private static void depth() {
        Sentence.holds("11: no such symbol", BOOKS + """
            depth LEAST buys 0 = index
            depth -1 buys 0 = index
            depth 0 buys 0 = 0
            depth 1 buys 0 = 3
            depth 3 buys 0 = 0
            depth 4 buys 0 = index
            depth MOST buys 10 = index
            """);
        Sentence.holds("11: there is no such side", BOOKS + """
            depth 1 LEAST 0 = argument
            depth 1 -1 10 = argument
            depth 1 0 10 = 6
            depth 1 1 11 = 42
            depth 1 2 0 = argument
            depth 1 MOST 11 = argument
            """);
        Sentence.holds("11: the price is not 0 .. 10000", BOOKS + """
            depth 1 sells LEAST = argument
            depth 1 sells -1 = argument
            depth 1 sells 0 = 3
            depth 1 sells 1 = 0
            depth 1 sells 10000 = 0
            depth 1 sells 10001 = argument
            depth 1 buys MOST = argument
            """);
        Sentence.holds("11: the exceptions in their order", BOOKS + """
            depth -1 2 0 = index
            depth 4 buys -1 = index
            depth 4 2 10001 = index
            depth 1 2 -1 = argument
            depth 0 2 0 = argument
            """);
        Sentence.holds("11: how much is shown at the least and the greatest price", """
            deposit 1 100000
            grant 1 1 10
            order 1 0 buys PLAIN 1 3 0
            order 1 0 buys PLAIN 10000 4 0
            order 1 1 sells PLAIN 1 5 0
            order 1 1 sells PLAIN 10000 2 0
            depth 0 buys 1 = 3
            depth 0 buys 2 = 0
            depth 0 buys 9999 = 0
            depth 0 buys 10000 = 4
            depth 0 buys 0 = 2
            depth 1 sells 1 = 5
            depth 1 sells 10000 = 2
            depth 1 buys 1 = 0
            depth 0 sells 1 = 0
            """);
        Sentence.holds("11: how many prices a book has, each counted once, stops not at all", BOOKS + """
            depth 1 buys 0 = 3
            order 1 1 buys STOP 7 1 5 = 8
            depth 1 buys 0 = 3
            depth 1 buys 7 = 0
            cancel 1 1 = 2
            depth 1 buys 0 = 3
            depth 1 buys 10 = 4
            cancel 1 2 = 30
            depth 1 buys 0 = 2
            depth 1 buys 10 = 0
            cancel 1 0 = 1
            cancel 1 3 = 8
            depth 1 buys 0 = 0
            """);
        Sentence.holds("11: how much is shown, of a LAYERED one that shows the next only when that is gone", """
            deposit 1 1000
            grant 2 0 10
            order 1 0 buys LAYERED 10 9 4 = 0
            depth 0 buys 10 = 4
            order 2 0 sells NOW 10 1 0 = 1
            depth 0 buys 10 = 3
            order 2 0 sells NOW 10 2 0 = 2
            depth 0 buys 10 = 1
            order 2 0 sells NOW 10 1 0 = 3
            depth 0 buys 10 = 4
            order 2 0 sells NOW 10 4 0 = 4
            depth 0 buys 10 = 1
            level 0 buys 0 2 = 1
            """);
        Sentence.holds("11: as much as can be shown at a price", """
            deposit 1 1000000
            100 x order 1 0 buys PLAIN 1 10000 0
            depth 0 buys 1 = 1000000
            depth 0 buys 0 = 1
            ahead 99 = 990000
            level 0 buys 0 1 = 100
            level 0 buys 0 2 = 1000000
            """);
    }

    private static void level() {
        Sentence.holds("12: no such symbol", BOOKS + """
            level LEAST buys 0 0 = index
            level -1 buys 0 0 = index
            level 1 buys 0 0 = 10
            level 4 buys 0 0 = index
            level MOST buys 0 0 = index
            """);
        Sentence.holds("12: no such level", BOOKS + """
            level 1 buys LEAST 0 = index
            level 1 buys -1 0 = index
            level 1 buys 0 0 = 10
            level 1 buys 2 0 = 8
            level 1 buys 3 0 = index
            level 1 buys MOST 0 = index
            level 1 sells -1 0 = index
            level 1 sells 0 0 = 11
            level 1 sells 2 0 = 13
            level 1 sells 3 0 = index
            """);
        Sentence.holds("12: no such level, the book being empty", """
            level 0 buys 0 0 = index
            level 3 sells 0 2 = index
            deposit 1 100
            order 1 0 buys STOP 10 1 5 = 0
            level 0 buys 0 0 = index
            order 1 0 buys PLAIN 10 1 0 = 1
            level 0 buys 0 0 = 10
            level 0 sells 0 0 = index
            level 1 buys 0 0 = index
            cancel 1 1 = 1
            level 0 buys 0 0 = index
            """);
        Sentence.holds("12: there is no such side", BOOKS + """
            level 1 LEAST 0 0 = argument
            level 1 -1 0 0 = argument
            level 1 0 0 0 = 10
            level 1 1 0 0 = 11
            level 1 2 0 0 = argument
            level 1 MOST 0 0 = argument
            """);
        Sentence.holds("12: another what", BOOKS + """
            level 1 buys 0 LEAST = argument
            level 1 buys 0 -1 = argument
            level 1 buys 0 0 = 10
            level 1 buys 0 1 = 2
            level 1 buys 0 2 = 32
            level 1 buys 0 3 = argument
            level 1 buys 0 MOST = argument
            """);
        Sentence.holds("12: the exceptions in their order", BOOKS + """
            level -1 2 0 0 = index
            level 4 2 0 3 = index
            level 4 buys -1 3 = index
            level 1 buys 3 3 = index
            level 1 sells -1 -1 = index
            level 0 buys 0 3 = index
            level 1 2 -1 0 = index
            level 1 2 0 3 = argument
            """);
    }

    private static void levelsAtTheEnds() {
        Sentence.holds("12: how many orders are there, how much of them is left, shown or not", BOOKS + """
            level 1 sells 0 0 = 11
            level 1 sells 0 1 = 2
            level 1 sells 0 2 = 96
            level 1 sells 1 0 = 12
            level 1 sells 1 1 = 1
            level 1 sells 1 2 = 16
            level 1 sells 2 0 = 13
            level 1 sells 2 1 = 1
            level 1 sells 2 2 = 128
            level 1 buys 1 0 = 9
            level 1 buys 1 1 = 1
            level 1 buys 1 2 = 1
            level 1 buys 2 0 = 8
            level 1 buys 2 1 = 1
            level 1 buys 2 2 = 8
            """);
        StringBuilder lines = new StringBuilder("deposit 1 1000000\n");
        for (int i = 0; i < 100; i++) {
            lines.append("order 1 0 buys PLAIN ").append(101 + i * 37 % 100).append(" 1 0\n");
        }
        Sentence.holds("12: as many levels as orders can be there", lines + """
            depth 0 buys 0 = 100
            level 0 buys 0 0 = 200
            level 0 buys 1 0 = 199
            level 0 buys 98 0 = 102
            level 0 buys 99 0 = 101
            level 0 buys 100 0 = index
            """);
    }

    private static void about() {
        Sentence.holds("13: no order has this number", """
            about 0 0 = index
            about -1 0 = index
            deposit 1 100
            order 1 0 buys NOW 10 1 0 = 0
            order 1 0 buys PLAIN 10 1 0 = 1
            about LEAST 0 = index
            about -1 0 = index
            about 0 0 = 1
            about 1 0 = 1
            about 2 0 = index
            about 511 0 = index
            about 512 0 = index
            about MOST 0 = index
            """);
        Sentence.holds("13: another what", BOOKS + """
            until 2 5 77
            about 5 LEAST = argument
            about 5 -1 = argument
            about 5 0 = 2
            about 5 1 = 64
            about 5 2 = 10
            about 5 3 = 0
            about 5 4 = 77
            about 5 5 = 0
            about 5 6 = argument
            about 5 MOST = argument
            """);
        Sentence.holds("13: the exceptions in their order", BOOKS + """
            about -1 6 = index
            about 8 -1 = index
            about 7 -1 = argument
            """);
        Sentence.holds("13: the account, of the first and the last one", """
            deposit 0 100
            deposit 511 100
            order 511 0 buys PLAIN 10 1 0 = 0
            order 0 0 buys NOW 10 1 0 = 1
            about 0 0 = 511
            about 1 0 = 0
            """);
    }

    private static void states() {
        Sentence.holds("13: 0 when it is not there any more; of stops 0; its state", BOOKS + """
            order 2 1 sells STOP 20 5 1 = 8
            about 8 1 = 5
            about 8 2 = 0
            about 8 3 = 1
            about 8 5 = 0
            order 1 1 buys WHOLE 11 42 0 = 9
            about 9 1 = 0
            about 9 2 = 0
            about 9 3 = 2
            about 9 5 = 42
            about 6 1 = 0
            about 6 2 = 0
            about 6 3 = 2
            about 6 5 = 32
            about 5 1 = 54
            about 5 2 = 10
            about 5 3 = 0
            about 5 5 = 10
            order 1 1 buys NOW 11 55 0 = 10
            about 10 1 = 0
            about 10 2 = 0
            about 10 3 = 3
            about 10 5 = 54
            cancel 2 8 = 5
            about 8 1 = 0
            about 8 2 = 0
            about 8 3 = 3
            """);
        Sentence.holds("13: the time at which it ends, 0 for none", BOOKS + """
            about 0 4 = 0
            until 1 0 1
            about 0 4 = 1
            until 1 0 MOST
            about 0 4 = 2147483647
            until 1 0 0
            about 0 4 = 0
            """);
        Sentence.holds("13: what one that ended tells", BOOKS + """
            until 1 2 3
            pass 3 = 1
            about 2 0 = 1
            about 2 1 = 0
            about 2 2 = 0
            about 2 3 = 3
            about 2 5 = 0
            """);
    }

    private static void ahead() {
        Sentence.holds("14: no order has this number", """
            ahead 0 = index
            deposit 1 100
            order 1 0 buys PLAIN 10 1 0 = 0
            order 1 0 buys PLAIN 10 1 0 = 1
            ahead LEAST = index
            ahead -1 = index
            ahead 0 = 0
            ahead 1 = 1
            ahead 2 = index
            ahead MOST = index
            """);
        Sentence.holds("14: how much is shown by orders before it at its price", BOOKS + """
            ahead 1 = 0
            ahead 2 = 2
            ahead 0 = 0
            ahead 3 = 0
            ahead 5 = 0
            ahead 6 = 10
            ahead 4 = 0
            ahead 7 = 0
            order 1 1 buys PLAIN 10 1 0 = 8
            ahead 8 = 6
            order 2 1 sells PLAIN 11 1 0 = 9
            ahead 9 = 42
            cancel 2 5 = 64
            ahead 9 = 32
            ahead 6 = 0
            reduce 2 6 31 = 1
            ahead 9 = 1
            """);
        Sentence.holds("14: at its price in its own book alone", """
            deposit 1 1000
            grant 2 0 10
            order 1 0 buys PLAIN 10 4 0 = 0
            order 1 1 buys PLAIN 10 3 0 = 1
            ahead 1 = 0
            order 1 0 buys PLAIN 10 1 0 = 2
            ahead 2 = 4
            order 2 0 sells NOW 10 3 0 = 3
            ahead 2 = 1
            order 2 0 sells NOW 10 1 0 = 4
            ahead 2 = 0
            """);
    }

    private static void doesNotRest() {
        Sentence.holds("14: it does not rest", BOOKS + """
            order 1 1 buys STOP 20 5 5 = 8
            ahead 8 = none
            order 1 1 buys NOW 7 5 0 = 9
            ahead 9 = none
            order 1 1 buys WHOLE 7 5 0 = 10
            ahead 10 = none
            order 1 1 buys QUIET 11 5 0 = 11
            ahead 11 = none
            cancel 1 2 = 30
            ahead 2 = none
            until 1 3 2
            pass 2 = 1
            ahead 3 = none
            cancel 1 8 = 5
            ahead 8 = none
            order 1 1 buys NOW 11 42 0 = 12
            ahead 12 = none
            ahead 6 = none
            ahead 5 = 0
            """);
    }
}
