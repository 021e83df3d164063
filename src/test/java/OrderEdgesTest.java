/** The boundaries that promise 5 names, sentence by sentence: what is taken and what is refused. */
public final class OrderEdgesTest {
    private static final String[] KINDS = {"PLAIN", "NOW", "WHOLE", "QUIET", "LAYERED", "STOP"};

    public static void main(String[] args) {
        noSuchPlace();
        sideAndKind();
        priceAndAmount();
        extra();
        notEnoughCash();
        notEnoughShares();
        hundredOrders();
        roomAgain();
        exceptionsInOrder();
        numbers();
        Check.end();
    }

    private static void noSuchPlace() {
        Sentence.holds("5: no such account", """
            deposit 0 100
            deposit 511 100
            order LEAST 0 buys PLAIN 10 1 0 = index
            order -1 0 buys PLAIN 10 1 0 = index
            order 0 0 buys PLAIN 10 1 0 = 0
            order 511 0 buys PLAIN 10 1 0 = 1
            order 512 0 buys PLAIN 10 1 0 = index
            order MOST 0 buys PLAIN 10 1 0 = index
            about 0 0 = 0
            about 1 0 = 511
            """);
        Sentence.holds("5: no such symbol", """
            deposit 1 100
            order 1 LEAST buys PLAIN 10 1 0 = index
            order 1 -1 buys PLAIN 10 1 0 = index
            order 1 0 buys PLAIN 10 1 0 = 0
            order 1 3 buys PLAIN 11 1 0 = 1
            order 1 4 buys PLAIN 10 1 0 = index
            order 1 MOST buys PLAIN 10 1 0 = index
            best 0 buys = 10
            best 1 buys = none
            best 2 buys = none
            best 3 buys = 11
            """);
    }

    private static void sideAndKind() {
        Sentence.holds("5: side is not as said", """
            deposit 1 100
            grant 1 0 100
            order 1 0 LEAST PLAIN 10 1 0 = argument
            order 1 0 -1 PLAIN 10 1 0 = argument
            order 1 0 0 PLAIN 10 1 0 = 0
            order 1 0 1 PLAIN 11 2 0 = 1
            order 1 0 2 PLAIN 10 1 0 = argument
            order 1 0 MOST PLAIN 10 1 0 = argument
            cash 1 1 = 10
            shares 1 0 1 = 2
            """);
        Sentence.holds("5: kind is not as said", """
            deposit 1 100
            order 1 0 buys LEAST 10 1 1 = argument
            order 1 0 buys -1 10 1 1 = argument
            order 1 0 buys 0 10 1 1 = 0
            order 1 0 buys 1 10 1 1 = 1
            order 1 0 buys 2 10 1 1 = 2
            order 1 0 buys 3 10 1 1 = 3
            order 1 0 buys 4 10 1 1 = 4
            order 1 0 buys 5 10 1 1 = 5
            order 1 0 buys 6 10 1 1 = argument
            order 1 0 buys MOST 10 1 1 = argument
            about 0 3 = 0
            about 1 3 = 3
            about 2 3 = 3
            about 3 3 = 0
            about 4 3 = 0
            about 5 3 = 1
            """);
    }

    private static void priceAndAmount() {
        for (String kind : KINDS) {
            Sentence.holds("5: price is not as said", """
                deposit 1 1000000
                grant 1 2 10
                grant 1 3 10
                order 1 0 buys KIND LEAST 1 1 = argument
                order 1 0 buys KIND -1 1 1 = argument
                order 1 0 buys KIND 0 1 1 = argument
                order 1 0 buys KIND 1 1 1 = 0
                order 1 1 buys KIND 10000 1 1 = 1
                order 1 1 buys KIND 10001 1 1 = argument
                order 1 1 buys KIND MOST 1 1 = argument
                order 1 2 sells KIND 0 1 1 = argument
                order 1 2 sells KIND 1 1 1 = 2
                order 1 3 sells KIND 10000 1 1 = 3
                order 1 3 sells KIND 10001 1 1 = argument
                """.replace("KIND", kind));
            Sentence.holds("5: amount is not as said", """
                deposit 1 1000000
                grant 1 2 1000000
                order 1 0 buys KIND 1 LEAST 1 = argument
                order 1 0 buys KIND 1 -1 1 = argument
                order 1 0 buys KIND 1 0 1 = argument
                order 1 0 buys KIND 1 1 1 = 0
                order 1 0 buys KIND 1 10000 1 = 1
                order 1 0 buys KIND 1 10001 1 = argument
                order 1 0 buys KIND 1 MOST 1 = argument
                order 1 2 sells KIND 1 0 1 = argument
                order 1 2 sells KIND 1 1 1 = 2
                order 1 2 sells KIND 1 10000 1 = 3
                order 1 2 sells KIND 1 10001 1 = argument
                """.replace("KIND", kind));
        }
        Sentence.holds("5: the least and the greatest price are kept", """
            deposit 1 100000
            grant 2 1 10
            order 1 0 buys PLAIN 1 1 0
            order 1 0 buys PLAIN 10000 1 0
            order 2 1 sells PLAIN 10000 1 0
            order 2 1 sells PLAIN 1 1 0
            level 0 buys 0 0 = 10000
            level 0 buys 1 0 = 1
            level 1 sells 0 0 = 1
            level 1 sells 1 0 = 10000
            """);
        Sentence.holds("5: the least and the greatest amount are kept", """
            deposit 1 100000
            order 1 0 buys PLAIN 1 1 0
            order 1 0 buys PLAIN 1 10000 0
            about 0 1 = 1
            about 1 1 = 10000
            about 1 2 = 10000
            """);
    }

    private static void extra() {
        for (String kind : new String[] {"LAYERED", "STOP"}) {
            Sentence.holds("5: (of kinds 4 and 5) extra is not as said", """
                deposit 1 1000
                grant 1 0 1000
                order 1 0 buys KIND 10 5 LEAST = argument
                order 1 0 buys KIND 10 5 -1 = argument
                order 1 0 buys KIND 10 5 0 = argument
                order 1 0 buys KIND 10 5 1 = 0
                order 1 0 buys KIND 10 5 10000 = 1
                order 1 0 buys KIND 10 5 10001 = argument
                order 1 0 buys KIND 10 5 MOST = argument
                order 1 0 sells KIND 11 5 0 = argument
                order 1 0 sells KIND 11 5 1 = 2
                order 1 0 sells KIND 11 5 10000 = 3
                order 1 0 sells KIND 11 5 10001 = argument
                """.replace("KIND", kind));
        }
        for (int kind = 0; kind <= 3; kind++) {
            Sentence.holds("5: of the other kinds extra may be anything", """
                deposit 1 1000
                order 1 0 buys KIND 10 5 LEAST = 0
                order 1 0 buys KIND 10 5 -1 = 1
                order 1 0 buys KIND 10 5 0 = 2
                order 1 0 buys KIND 10 5 1 = 3
                order 1 0 buys KIND 10 5 10001 = 4
                order 1 0 buys KIND 10 5 MOST = 5
                """.replace("KIND", KINDS[kind]));
        }
        Sentence.holds("5: the extra of a PLAIN or QUIET one hides nothing", """
            deposit 1 1000
            order 1 0 buys PLAIN 10 5 1
            order 1 0 buys QUIET 10 5 1
            about 0 2 = 5
            about 1 2 = 5
            """);
    }

    private static void notEnoughCash() {
        for (String kind : KINDS) {
            Sentence.holds("5: not enough is FREE to be held, of CASH", """
                order 1 0 buys KIND 1 1 1 = state
                deposit 1 99
                grant 1 0 1000
                deposit 2 1000
                order 1 0 buys KIND 10 10 1 = state
                order 1 0 buys KIND 100 1 1 = state
                order 1 0 buys KIND 1 100 1 = state
                deposit 1 1
                order 1 0 buys KIND 10 10 1 = 0
                """.replace("KIND", kind));
        }
        Sentence.holds("5: not enough is FREE for the dearest order of all", """
            deposit 1 99999999
            order 1 0 buys PLAIN 10000 10000 0 = state
            deposit 1 1
            order 1 0 buys PLAIN 10000 10000 0 = 0
            cash 1 1 = 100000000
            order 1 0 buys PLAIN 1 1 0 = state
            """);
        Sentence.holds("5: what an order of another symbol holds is not FREE", """
            deposit 1 100
            order 1 0 buys PLAIN 30 2 0 = 0
            order 1 3 buys STOP 30 1 10000 = 1
            order 1 2 buys PLAIN 11 1 0 = state
            order 1 2 buys PLAIN 10 1 0 = 2
            """);
        Sentence.holds("5: it holds its own price, even if it would pay less", """
            deposit 1 100
            grant 2 0 10
            order 2 0 sells PLAIN 1 10 0 = 0
            order 1 0 buys NOW 10 11 0 = state
            order 1 0 buys NOW 101 1 0 = state
            order 1 0 buys NOW 10 10 0 = 1
            cash 1 0 = 90
            """);
        Sentence.holds("5: what a seller got is FREE", """
            deposit 1 100
            grant 2 0 10
            order 2 0 sells PLAIN 10 10 0 = 0
            order 2 1 buys PLAIN 1 1 0 = state
            order 1 0 buys PLAIN 10 10 0 = 1
            order 2 1 buys PLAIN 1 101 0 = state
            order 2 1 buys PLAIN 1 100 0 = 2
            """);
    }

    private static void notEnoughShares() {
        for (String kind : KINDS) {
            Sentence.holds("5: not enough is FREE to be held, of SHARES", """
                order 1 0 sells KIND 1 1 1 = state
                grant 1 0 9
                grant 1 1 1000
                grant 2 0 1000
                deposit 1 1000
                order 1 0 sells KIND 10 10 1 = state
                grant 1 0 1
                order 1 0 sells KIND 10 10 1 = 0
                """.replace("KIND", kind));
        }
        Sentence.holds("5: not enough is FREE for the greatest sale", """
            grant 1 0 9999
            order 1 0 sells PLAIN 10000 10000 0 = state
            grant 1 0 1
            order 1 0 sells PLAIN 10000 10000 0 = 0
            shares 1 0 1 = 10000
            order 1 0 sells PLAIN 1 1 0 = state
            """);
        Sentence.holds("5: what a buyer got is FREE", """
            deposit 1 100
            grant 2 0 10
            order 2 0 sells PLAIN 10 10 0 = 0
            order 1 0 sells PLAIN 20 1 0 = state
            order 1 0 buys PLAIN 10 10 0 = 1
            order 1 0 sells PLAIN 20 11 0 = state
            order 1 0 sells PLAIN 20 10 0 = 2
            """);
    }

    private static void hundredOrders() {
        for (String kind : KINDS) {
            Sentence.holds("5: 100 orders are there, and one comes that is " + kind, """
                deposit 1 1000
                deposit 2 1000
                grant 2 0 1000
                99 x order 1 0 buys PLAIN 10 1 0
                count 2 = 99
                order 1 0 buys PLAIN 10 1 0 = 99
                count 2 = 100
                order 2 0 sells KIND 10 1 1 = state
                order 2 0 sells KIND 11 1 1 = state
                order 2 3 buys KIND 10 1 1 = state
                count 2 = 100
                count 1 = 100
                """.replace("KIND", kind));
        }
        Sentence.holds("5: 100 orders are there, the hundredth being a stop", """
            deposit 1 2000
            99 x order 1 0 buys QUIET 10 1 0
            order 1 0 buys STOP 10 1 10000 = 99
            count 2 = 100
            order 1 0 buys STOP 10 1 10000 = state
            order 1 0 buys PLAIN 10 1 0 = state
            """);
        Sentence.holds("5: 100 orders are there, all of them stops", """
            deposit 1 2000
            99 x order 1 3 buys STOP 10 1 10000
            order 1 3 buys LAYERED 10 1 1 = 99
            order 1 2 buys LAYERED 10 1 1 = state
            order 1 1 buys NOW 10 1 1 = state
            """);
        Sentence.holds("5: 100 orders are there, of all symbols and sides", """
            deposit 1 2000
            grant 1 1 100
            25 x order 1 0 buys PLAIN 10 1 0
            25 x order 1 1 sells PLAIN 10 1 0
            25 x order 1 2 buys PLAIN 10 1 0
            24 x order 1 3 buys PLAIN 10 1 0
            order 1 3 buys PLAIN 10 1 0 = 99
            order 1 0 buys PLAIN 10 1 0 = state
            order 1 1 sells PLAIN 10 1 0 = state
            """);
    }

    private static void roomAgain() {
        Sentence.holds("5: of 100 orders one was cancelled", """
            deposit 1 2000
            100 x order 1 0 buys PLAIN 10 1 0
            order 1 0 buys PLAIN 10 1 0 = state
            cancel 1 50 = 1
            order 1 0 buys PLAIN 10 1 0 = 100
            count 2 = 100
            order 1 0 buys PLAIN 10 1 0 = state
            """);
        Sentence.holds("5: of 100 orders one ended", """
            deposit 1 2000
            100 x order 1 0 buys PLAIN 10 1 0
            until 1 99 7
            pass 6 = 0
            order 1 0 buys PLAIN 10 1 0 = state
            pass 1 = 1
            order 1 0 buys PLAIN 10 1 0 = 100
            order 1 0 buys PLAIN 10 1 0 = state
            """);
        Sentence.holds("5: reduced ones are there still", """
            deposit 1 2000
            100 x order 1 0 buys PLAIN 10 2 0
            reduce 1 0 1 = 1
            order 1 0 buys PLAIN 10 1 0 = state
            """);
        Sentence.holds("5: those that were traded wholly leave room, others do not", """
            deposit 1 3000
            grant 2 0 10
            99 x order 1 0 buys PLAIN 10 2 0
            order 2 0 sells NOW 10 1 0 = 99
            count 2 = 99
            order 2 0 sells NOW 10 2 0 = 100
            count 2 = 98
            order 2 0 sells PLAIN 10 3 0 = 101
            count 2 = 96
            order 2 0 sells PLAIN 11 1 0 = 102
            3 x order 1 1 buys PLAIN 10 1 0
            count 2 = 100
            order 1 1 buys PLAIN 10 1 0 = state
            """);
        Sentence.holds("5: those that were cancelled at once take no room", """
            deposit 1 2000
            grant 1 0 1
            99 x order 1 0 buys PLAIN 10 1 0
            order 1 0 buys NOW 10 1 0 = 99
            order 1 0 buys WHOLE 10 1 0 = 100
            order 1 0 sells QUIET 10 1 0 = 101
            order 1 0 sells PLAIN 10 1 0 = 102
            count 2 = 99
            order 1 0 buys PLAIN 10 1 0 = 103
            count 2 = 100
            order 1 0 buys NOW 10 1 0 = state
            """);
        Sentence.holds("5: stops that become PLAIN take no more room", """
            deposit 1 1000
            grant 2 0 10
            deposit 3 1000
            order 2 0 sells PLAIN 20 1 0 = 0
            98 x order 1 0 buys STOP 5 1 20
            order 3 0 buys PLAIN 20 2 0 = 99
            count 2 = 99
            depth 0 buys 0 = 2
            depth 0 buys 5 = 98
            depth 0 buys 20 = 1
            ahead 98 = 97
            order 1 0 buys PLAIN 5 1 0 = 100
            order 1 0 buys PLAIN 5 1 0 = state
            """);
    }

    private static void exceptionsInOrder() {
        Sentence.holds("5: the exceptions in their order, of an account without anything", """
            order -1 0 2 PLAIN 10 1 0 = index
            order 512 0 buys 6 10 1 0 = index
            order -1 0 buys PLAIN 0 1 0 = index
            order 512 0 buys PLAIN 10 0 0 = index
            order 512 0 buys STOP 10 1 0 = index
            order 1 -1 2 PLAIN 10 1 0 = index
            order 1 4 buys -1 10 1 0 = index
            order 1 4 buys PLAIN 10001 1 0 = index
            order 1 -1 buys PLAIN 10 10001 0 = index
            order 1 4 buys LAYERED 10 1 10001 = index
            order 1 0 2 PLAIN 10 1 0 = argument
            order 1 0 -1 PLAIN 10 1 0 = argument
            order 1 0 buys 6 10 1 1 = argument
            order 1 0 buys -1 10 1 1 = argument
            order 1 0 buys PLAIN 0 1 0 = argument
            order 1 0 buys PLAIN 10001 1 0 = argument
            order 1 0 buys PLAIN 10 0 0 = argument
            order 1 0 buys PLAIN 10 10001 0 = argument
            order 1 0 buys LAYERED 10 1 0 = argument
            order 1 0 sells LAYERED 10 1 10001 = argument
            order 1 0 buys STOP 10 1 0 = argument
            order 1 0 sells STOP 10 1 10001 = argument
            order 1 0 buys PLAIN 10 1 0 = state
            order 1 0 sells PLAIN 10 1 0 = state
            """);
        Sentence.holds("5: the exceptions in their order, 100 orders being there", """
            deposit 1 2000
            100 x order 1 0 buys PLAIN 10 1 0
            order 512 0 buys PLAIN 10 1 0 = index
            order 1 4 buys PLAIN 10 1 0 = index
            order 1 0 2 PLAIN 10 1 0 = argument
            order 1 0 buys 6 10 1 0 = argument
            order 1 0 buys PLAIN 0 1 0 = argument
            order 1 0 buys PLAIN 10 10001 0 = argument
            order 1 0 buys LAYERED 10 1 0 = argument
            order 1 0 buys PLAIN 10 1 0 = state
            """);
    }

    private static void numbers() {
        Sentence.holds("ORDERS get numbers 0, 1, .. as they are taken", """
            deposit 1 100
            order 1 0 buys NOW 10 1 0 = 0
            order 1 0 buys PLAIN 0 1 0 = argument
            order 1 0 buys WHOLE 10 1 0 = 1
            order 2 0 buys PLAIN 10 1 0 = state
            order 1 3 buys STOP 10 1 1 = 2
            order 1 4 buys PLAIN 10 1 0 = index
            cancel 1 2 = 1
            order 1 0 buys PLAIN 10 1 0 = 3
            count 1 = 4
            about 3 1 = 1
            about 4 1 = index
            """);
        Sentence.holds("An object is used for at most 512 calls, which may bring 511 orders", """
            deposit 1 1000
            510 x order 1 0 buys NOW 1 1 0
            order 1 0 buys NOW 1 1 0 = 510
            """);
    }
}
