/** The boundaries that promises 1 to 4, 15 and 16 name, sentence by sentence. */
public final class AccountEdgesTest {
    public static void main(String[] args) {
        newObject();
        deposit();
        withdraw();
        grant();
        cash();
        shares();
        Check.end();
    }

    /** The same call for each of the 512 accounts, which is all that one object may be asked. */
    private static String ofEachAccount(String start, String end) {
        StringBuilder lines = new StringBuilder();
        for (int account = 0; account < 512; account++) {
            lines.append(start).append(' ').append(account).append(' ').append(end).append('\n');
        }
        return lines.toString();
    }

    private static void newObject() {
        for (int what = 0; what <= 1; what++) {
            Sentence.holds("1: 512 accounts without CASH", ofEachAccount("cash", what + " = 0"));
        }
        for (int i = 0; i < 16; i++) {
            Sentence.holds("1: 512 accounts without SHARES", ofEachAccount("shares", i / 4 + " " + i % 4 + " = 0"));
        }
        for (int book = 0; book < 8; book++) {
            Sentence.holds("1: empty books", """
                best BOOK = none
                depth BOOK 0 = 0
                depth BOOK 1 = 0
                depth BOOK 10000 = 0
                level BOOK 0 0 = index
                level BOOK 0 1 = index
                level BOOK 0 2 = index
                """.replace("BOOK", book / 2 + " " + book % 2));
        }
        for (int symbol = 0; symbol < 4; symbol++) {
            Sentence.holds("1: no trade", """
                count 0 = 0
                trade 0 0 = index
                symbol SYMBOL 0 = 0
                symbol SYMBOL 1 = 0
                symbol SYMBOL 2 = 0
                symbol SYMBOL 3 = 0
                busiest SYMBOL 0 = index
                """.replace("SYMBOL", "" + symbol));
        }
        Sentence.holds("1: no order", """
            count 1 = 0
            count 2 = 0
            about 0 0 = index
            ahead 0 = index
            cancel 0 0 = index
            reduce 0 0 1 = index
            until 0 0 1 = index
            """);
        Sentence.holds("1: TIME 0", """
            count 4 = 0
            pass 0 = 0
            count 4 = 0
            """);
    }

    private static void deposit() {
        Sentence.holds("2: no such account", """
            deposit LEAST 5 = index
            deposit -1 5 = index
            deposit 0 5 = 5
            deposit 511 6 = 6
            deposit 512 5 = index
            deposit MOST 5 = index
            cash 0 0 = 5
            cash 511 0 = 6
            cash 510 0 = 0
            """);
        Sentence.holds("2: amount is not 1 .. 1000000000", """
            deposit 1 LEAST = argument
            deposit 1 -1 = argument
            deposit 1 0 = argument
            deposit 1 1 = 1
            deposit 1 1000000000 = 1000000001
            deposit 1 1000000001 = argument
            deposit 1 MOST = argument
            deposit 1 1000000000 = 2000000001
            deposit 1 1000000000 = 3000000001
            cash 1 0 = 3000000001
            """);
        Sentence.holds("2: the exceptions in their order", """
            deposit -1 0 = index
            deposit 512 1000000001 = index
            deposit 511 0 = argument
            """);
        Sentence.holds("2: how much it has, held or not", """
            deposit 1 100 = 100
            order 1 0 buys PLAIN 10 10 0 = 0
            deposit 1 5 = 105
            cash 1 1 = 100
            """);
        Sentence.holds("2: what came is FREE", """
            deposit 1 9
            order 1 0 buys PLAIN 10 1 0 = state
            deposit 1 1 = 10
            order 1 0 buys PLAIN 10 1 0 = 0
            """);
    }

    private static void withdraw() {
        Sentence.holds("3: no such account", """
            deposit 0 5
            deposit 511 5
            withdraw LEAST 1 = index
            withdraw -1 1 = index
            withdraw 0 1 = 4
            withdraw 511 2 = 3
            withdraw 512 1 = index
            withdraw MOST 1 = index
            cash 0 0 = 4
            cash 511 0 = 3
            """);
        Sentence.holds("3: amount is not 1 .. 1000000000", """
            3 x deposit 1 1000000000
            withdraw 1 LEAST = argument
            withdraw 1 -1 = argument
            withdraw 1 0 = argument
            withdraw 1 1 = 2999999999
            withdraw 1 1000000000 = 1999999999
            withdraw 1 1000000001 = argument
            withdraw 1 MOST = argument
            cash 1 0 = 1999999999
            """);
        Sentence.holds("3: not so much is FREE, of nothing", """
            withdraw 1 1 = state
            withdraw 1 1000000000 = state
            """);
        Sentence.holds("3: not so much is FREE", """
            deposit 1 100
            deposit 2 1000
            withdraw 1 101 = state
            withdraw 1 100 = 0
            withdraw 1 1 = state
            cash 2 0 = 1000
            """);
        Sentence.holds("3: not so much is FREE, some being HELD", """
            deposit 1 100
            order 1 0 buys PLAIN 6 10 0 = 0
            withdraw 1 41 = state
            withdraw 1 40 = 60
            withdraw 1 1 = state
            cash 1 1 = 60
            reduce 1 0 1 = 9
            withdraw 1 7 = state
            withdraw 1 6 = 54
            """);
        Sentence.holds("3: not so much is FREE, a stop holding some", """
            deposit 1 100
            order 1 3 buys STOP 10 9 10000 = 0
            withdraw 1 11 = state
            withdraw 1 10 = 90
            cancel 1 0 = 9
            withdraw 1 90 = 0
            """);
        Sentence.holds("3: the exceptions in their order", """
            withdraw -1 0 = index
            withdraw 512 1000000001 = index
            withdraw 1 1000000001 = argument
            withdraw 1 1000000000 = state
            """);
    }

    private static void grant() {
        Sentence.holds("4: no such account", """
            grant LEAST 0 5 = index
            grant -1 0 5 = index
            grant 0 0 5 = 5
            grant 511 0 6 = 6
            grant 512 0 5 = index
            grant MOST 0 5 = index
            shares 0 0 0 = 5
            shares 511 0 0 = 6
            """);
        Sentence.holds("4: no such symbol", """
            grant 1 LEAST 5 = index
            grant 1 -1 5 = index
            grant 1 0 5 = 5
            grant 1 3 6 = 6
            grant 1 4 5 = index
            grant 1 MOST 5 = index
            shares 1 0 0 = 5
            shares 1 1 0 = 0
            shares 1 2 0 = 0
            shares 1 3 0 = 6
            shares 0 3 0 = 0
            shares 2 0 0 = 0
            """);
        Sentence.holds("4: amount is not 1 .. 1000000", """
            grant 1 2 LEAST = argument
            grant 1 2 -1 = argument
            grant 1 2 0 = argument
            grant 1 2 1 = 1
            grant 1 2 1000000 = 1000001
            grant 1 2 1000001 = argument
            grant 1 2 MOST = argument
            shares 1 2 0 = 1000001
            """);
        Sentence.holds("4: the exceptions in their order", """
            grant -1 0 0 = index
            grant 512 0 1000001 = index
            grant 0 -1 0 = index
            grant 0 4 1000001 = index
            grant 511 3 0 = argument
            """);
        Sentence.holds("4: how many it has, held or not", """
            grant 1 0 10 = 10
            order 1 0 sells PLAIN 5 10 0 = 0
            grant 1 0 1 = 11
            shares 1 0 1 = 10
            """);
        Sentence.holds("4: what came is FREE", """
            grant 1 0 9
            order 1 0 sells PLAIN 5 10 0 = state
            grant 1 0 1 = 10
            order 1 0 sells PLAIN 5 10 0 = 0
            """);
        Sentence.holds("4: as many as 500 calls can bring", """
            450 x grant 1 0 1000000
            shares 1 0 0 = 450000000
            """);
    }

    private static void cash() {
        Sentence.holds("15: no such account", """
            deposit 0 5
            deposit 511 6
            cash LEAST 0 = index
            cash -1 0 = index
            cash 0 0 = 5
            cash 511 0 = 6
            cash 512 0 = index
            cash MOST 0 = index
            """);
        Sentence.holds("15: another what", """
            deposit 1 100
            order 1 0 buys PLAIN 10 7 0
            cash 1 LEAST = argument
            cash 1 -1 = argument
            cash 1 0 = 100
            cash 1 1 = 70
            cash 1 2 = argument
            cash 1 MOST = argument
            """);
        Sentence.holds("15: the exceptions in their order", """
            cash -1 -1 = index
            cash 512 2 = index
            cash 511 2 = argument
            """);
        Sentence.holds("15: the most that orders can hold is beyond an int", """
            11 x deposit 1 1000000000
            100 x order 1 2 buys PLAIN 10000 10000 0
            cash 1 0 = 11000000000
            cash 1 1 = 10000000000
            withdraw 1 1000000000 = 10000000000
            withdraw 1 1 = state
            """);
        Sentence.holds("15: cash beyond an int changes hands", """
            3 x deposit 1 1000000000
            grant 2 0 220000
            22 x order 2 0 sells PLAIN 10000 10000 0
            22 x order 1 0 buys NOW 10000 10000 0
            cash 1 0 = 800000000
            cash 2 0 = 2200000000
            cash 1 1 = 0
            """);
        Sentence.holds("15: nothing is HELD of what is not there any more", """
            deposit 1 100
            grant 2 0 100
            order 1 0 buys PLAIN 10 4 0 = 0
            cash 1 1 = 40
            order 2 0 sells PLAIN 10 3 0 = 1
            cash 1 1 = 10
            cash 1 0 = 70
            order 2 0 sells PLAIN 10 1 0 = 2
            cash 1 1 = 0
            cash 1 0 = 60
            order 1 0 buys PLAIN 10 6 0 = 3
            cash 1 1 = 60
            cancel 1 3 = 6
            cash 1 1 = 0
            order 1 0 buys PLAIN 10 6 0 = 4
            until 1 4 1 = ok
            pass 1 = 1
            cash 1 1 = 0
            order 1 0 buys NOW 10 6 0 = 5
            order 1 0 buys WHOLE 10 6 0 = 6
            cash 1 1 = 0
            cash 1 0 = 60
            """);
    }

    private static void shares() {
        Sentence.holds("16: no such account", """
            grant 0 0 5
            grant 511 0 6
            shares LEAST 0 0 = index
            shares -1 0 0 = index
            shares 0 0 0 = 5
            shares 511 0 0 = 6
            shares 512 0 0 = index
            shares MOST 0 0 = index
            """);
        Sentence.holds("16: no such symbol", """
            grant 1 0 5
            grant 1 3 6
            shares 1 LEAST 0 = index
            shares 1 -1 0 = index
            shares 1 0 0 = 5
            shares 1 3 0 = 6
            shares 1 4 0 = index
            shares 1 MOST 0 = index
            """);
        Sentence.holds("16: another what", """
            deposit 1 1000
            grant 1 0 50
            deposit 2 1000
            grant 2 0 50
            order 1 0 sells PLAIN 10 4 0
            order 2 0 buys PLAIN 10 4 0
            order 2 0 sells PLAIN 10 3 0
            order 1 0 buys PLAIN 10 3 0
            order 1 0 sells PLAIN 10 2 0
            shares 1 0 LEAST = argument
            shares 1 0 -1 = argument
            shares 1 0 0 = 49
            shares 1 0 1 = 2
            shares 1 0 2 = 3
            shares 1 0 3 = 4
            shares 1 0 4 = argument
            shares 1 0 MOST = argument
            """);
        Sentence.holds("16: the exceptions in their order", """
            shares -1 0 -1 = index
            shares 512 3 4 = index
            shares 0 -1 4 = index
            shares 511 4 -1 = index
            shares 511 3 4 = argument
            """);
        Sentence.holds("16: the most that orders can hold", """
            grant 1 1 1000000
            99 x order 1 1 sells PLAIN 10000 10000 0
            shares 1 1 1 = 990000
            order 1 1 sells STOP 1 10000 1 = 99
            shares 1 1 0 = 1000000
            shares 1 1 1 = 1000000
            shares 1 0 1 = 0
            """);
        Sentence.holds("16: nothing is HELD of what is not there any more", """
            deposit 2 100
            grant 1 3 10
            order 1 3 sells PLAIN 10 4 0 = 0
            shares 1 3 1 = 4
            order 2 3 buys PLAIN 10 3 0 = 1
            shares 1 3 1 = 1
            shares 1 3 0 = 7
            order 2 3 buys PLAIN 10 1 0 = 2
            shares 1 3 1 = 0
            shares 1 3 0 = 6
            order 1 3 sells STOP 10 6 1 = 3
            shares 1 3 1 = 6
            cancel 1 3 = 6
            shares 1 3 1 = 0
            order 1 3 sells LAYERED 10 6 1 = 4
            until 1 4 1 = ok
            pass 1 = 1
            shares 1 3 1 = 0
            order 1 3 sells NOW 10 6 0 = 5
            order 1 3 sells WHOLE 10 6 0 = 6
            shares 1 3 1 = 0
            shares 1 3 0 = 6
            """);
    }
}
