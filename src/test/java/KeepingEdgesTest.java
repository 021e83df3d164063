/** The boundaries that promises 6 to 9 name, sentence by sentence. */
public final class KeepingEdgesTest {
    /** Accounts 1 to 3 with cash and shares of the symbol 0. */
    private static final String RICH = """
        deposit 1 100000
        deposit 2 100000
        deposit 3 100000
        grant 1 0 1000
        grant 2 0 1000
        grant 3 0 1000
        """;

    /**
     * Orders of account 1 that are not there any more: 0 was traded wholly when it rested, 3 when it came; 4 (NOW),
     * 5 (WHOLE), 6 (QUIET) and 8 (STOPPED) were cancelled at once, 7 and the stop 10 by their account; 9 ended.
     * Of account 2, order 1 was traded wholly, and of order 2 95 are left. TIME is 5.
     */
    private static final String GONE = RICH + """
        order 1 0 buys PLAIN 10 5 0 = 0
        order 2 0 sells PLAIN 10 5 0 = 1
        order 2 0 sells PLAIN 12 100 0 = 2
        order 1 0 buys PLAIN 12 5 0 = 3
        order 1 0 buys NOW 11 5 0 = 4
        order 1 0 buys WHOLE 11 5 0 = 5
        order 1 0 buys QUIET 12 5 0 = 6
        order 1 0 sells PLAIN 11 5 0 = 7
        order 1 0 buys PLAIN 11 5 0 = 8
        cancel 1 7 = 5
        order 1 0 buys PLAIN 11 5 0 = 9
        until 1 9 5
        pass 5 = 1
        order 1 0 buys STOP 11 5 20 = 10
        cancel 1 10 = 5
        """;
    private static final int[] GONE_ORDERS = {0, 3, 4, 5, 6, 7, 8, 9, 10};

    public static void main(String[] args) {
        cancel();
        cancelInTheBook();
        reduce();
        reduceWhatIsNotShown();
        reduceKeepsTheTurn();
        until();
        pass();
        endings();
        Check.end();
    }

    private static void holds(String words, String lines) {
        Sentence.holds(words, RICH + lines);
    }

    /** CALL stands for the call's name, END for what stands behind its account and order. */
    private static void wrongOrders(String promise, String call, String end) {
        Sentence.holds(promise + ": no such account", """
            deposit 0 100
            deposit 511 100
            order 0 0 buys PLAIN 10 5 0 = 0
            order 511 0 buys PLAIN 10 5 0 = 1
            CALL LEAST 0 END = index
            CALL -1 0 END = index
            CALL 512 1 END = index
            CALL MOST 1 END = index
            CALL 0 0 END
            CALL 511 1 END
            """.replace("CALL", call).replace("END", end));
        Sentence.holds(promise + ": no order has this number", """
            CALL 1 0 END = index
            deposit 1 1000
            order 1 0 buys PLAIN 10 5 0 = 0
            order 1 0 buys PLAIN 10 5 0 = 1
            order 1 4 buys PLAIN 10 5 0 = index
            CALL 1 LEAST END = index
            CALL 1 -1 END = index
            CALL 1 2 END = index
            CALL 1 MOST END = index
            CALL 1 0 END
            CALL 1 1 END
            """.replace("CALL", call).replace("END", end));
        Sentence.holds(promise + ": it is of another account", """
            deposit 1 1000
            deposit 2 1000
            order 1 0 buys PLAIN 10 5 0 = 0
            order 2 1 buys STOP 10 5 5 = 1
            CALL 2 0 END = argument
            CALL 0 0 END = argument
            CALL 511 0 END = argument
            CALL 1 1 END = argument
            CALL 1 0 END
            CALL 2 1 END
            """.replace("CALL", call).replace("END", end));
        StringBuilder lines = new StringBuilder(GONE);
        lines.append("CALL 2 1 END = state\n".replace("CALL", call).replace("END", end));
        for (int order : GONE_ORDERS) {
            lines.append("CALL 1 ORDER END = state\nCALL 2 ORDER END = argument\nCALL 512 ORDER END = index\n"
                .replace("CALL", call).replace("ORDER", "" + order).replace("END", end));
        }
        Sentence.holds(promise + ": it is not there any more", lines.toString());
        Sentence.holds(promise + ": the exceptions in their order", GONE + """
            CALL -1 -1 END = index
            CALL 512 0 END = index
            CALL 2 11 END = index
            CALL 2 0 END = argument
            CALL 1 2 END = argument
            CALL 1 0 END = state
            """.replace("CALL", call).replace("END", end));
    }

    private static void cancel() {
        wrongOrders("6", "cancel", "");
        holds("6: how much of it was left", """
            order 1 0 buys PLAIN 10 5 0 = 0
            cancel 1 0 = 5
            cancel 1 0 = state
            order 1 0 buys PLAIN 10 5 0 = 1
            order 2 0 sells NOW 10 4 0 = 2
            cancel 1 1 = 1
            about 1 5 = 4
            order 1 0 buys LAYERED 10 9 2 = 3
            cancel 1 3 = 9
            order 1 0 sells STOP 10 7 1 = 4
            cancel 1 4 = 7
            order 1 0 buys PLAIN 1 10000 0 = 5
            cancel 1 5 = 10000
            order 1 0 buys PLAIN 1 9 0 = 6
            reduce 1 6 8 = 1
            cancel 1 6 = 1
            cash 1 1 = 0
            shares 1 0 1 = 0
            count 2 = 0
            """);
        holds("6: an order that was cancelled", """
            order 1 0 buys LAYERED 10 5 2 = 0
            cancel 1 0 = 5
            about 0 0 = 1
            about 0 1 = 0
            about 0 2 = 0
            about 0 3 = 3
            about 0 5 = 0
            """);
    }

    private static void cancelInTheBook() {
        holds("6: the first, the middle and the last one at a price", """
            order 1 0 sells PLAIN 10 1 0 = 0
            order 1 0 sells PLAIN 10 2 0 = 1
            order 1 0 sells PLAIN 10 4 0 = 2
            order 1 0 sells PLAIN 10 8 0 = 3
            order 1 0 sells PLAIN 10 16 0 = 4
            cancel 1 0 = 1
            ahead 4 = 14
            cancel 1 2 = 4
            ahead 4 = 10
            cancel 1 4 = 16
            depth 0 sells 10 = 10
            ahead 1 = 0
            ahead 3 = 2
            level 0 sells 0 1 = 2
            """);
        holds("6: the best, a middle and the worst price, and then the only one", """
            order 1 0 buys PLAIN 10 1 0 = 0
            order 1 0 buys PLAIN 11 1 0 = 1
            order 1 0 buys PLAIN 12 1 0 = 2
            order 1 0 buys PLAIN 13 1 0 = 3
            cancel 1 3 = 1
            best 0 buys = 12
            cancel 1 1 = 1
            depth 0 buys 0 = 2
            level 0 buys 1 0 = 10
            cancel 1 0 = 1
            depth 0 buys 0 = 1
            cancel 1 2 = 1
            best 0 buys = none
            order 1 0 buys PLAIN 9 1 0 = 4
            best 0 buys = 9
            """);
    }

    private static void reduce() {
        wrongOrders("7", "reduce", "1");
        holds("7: less is below 1", """
            order 1 0 buys PLAIN 10 5 0 = 0
            reduce 1 0 LEAST = argument
            reduce 1 0 -1 = argument
            reduce 1 0 0 = argument
            reduce 1 0 1 = 4
            """);
        holds("7: not more than that is left", """
            order 1 0 buys PLAIN 10 5 0 = 0
            reduce 1 0 5 = state
            reduce 1 0 6 = state
            reduce 1 0 MOST = state
            reduce 1 0 4 = 1
            reduce 1 0 1 = state
            about 0 1 = 1
            cash 1 1 = 10
            """);
        holds("7: not more than that is left, some being traded", """
            order 1 0 buys PLAIN 10 5 0 = 0
            order 2 0 sells NOW 10 2 0 = 1
            reduce 1 0 3 = state
            reduce 1 0 2 = 1
            about 0 5 = 2
            cash 1 1 = 10
            """);
        holds("7: not more than that is left, of a stop", """
            order 1 0 sells STOP 10 5 1 = 0
            reduce 1 0 5 = state
            reduce 1 0 4 = 1
            reduce 1 0 1 = state
            about 0 2 = 0
            about 0 3 = 1
            shares 1 0 1 = 1
            """);
        holds("7: not more than that is left, of the greatest order", """
            order 1 0 buys PLAIN 1 10000 0 = 0
            reduce 1 0 10000 = state
            reduce 1 0 9999 = 1
            cash 1 1 = 1
            """);
        Sentence.holds("7: the exceptions in their order", GONE + """
            reduce 512 0 0 = index
            reduce 1 11 0 = index
            reduce 2 0 0 = argument
            reduce 2 0 MOST = argument
            reduce 1 2 MOST = argument
            reduce 1 0 0 = argument
            reduce 1 0 LEAST = argument
            reduce 1 0 1 = state
            reduce 2 2 0 = argument
            reduce 2 2 95 = state
            """);
    }

    private static void reduceWhatIsNotShown() {
        holds("7: from what it does not show first", """
            order 1 0 sells LAYERED 10 20 6 = 0
            reduce 1 0 13 = 7
            about 0 2 = 6
            reduce 1 0 1 = 6
            about 0 2 = 6
            reduce 1 0 1 = 5
            about 0 2 = 5
            reduce 1 0 4 = 1
            about 0 2 = 1
            reduce 1 0 1 = state
            """);
        holds("7: from what it does not show first, over both at once", """
            order 1 0 sells LAYERED 10 20 6 = 0
            reduce 1 0 14 = 6
            about 0 2 = 6
            cancel 1 0 = 6
            order 1 0 sells LAYERED 10 20 6 = 1
            reduce 1 1 15 = 5
            about 1 2 = 5
            cancel 1 1 = 5
            order 1 0 sells LAYERED 10 20 6 = 2
            reduce 1 2 19 = 1
            about 2 2 = 1
            shares 1 0 1 = 1
            """);
        holds("7: from what it does not show first, some of what it showed being traded", """
            order 1 0 sells LAYERED 10 20 6 = 0
            order 2 0 buys NOW 10 4 0 = 1
            about 0 2 = 2
            reduce 1 0 13 = 3
            about 0 2 = 2
            reduce 1 0 1 = 2
            about 0 2 = 2
            reduce 1 0 1 = 1
            about 0 2 = 1
            """);
        holds("7: what is left of a reduced LAYERED one is shown as before", """
            order 1 0 sells LAYERED 10 20 6 = 0
            reduce 1 0 5 = 15
            order 2 0 buys NOW 10 6 0 = 1
            about 0 1 = 9
            about 0 2 = 6
            order 2 0 buys NOW 10 6 0 = 2
            about 0 1 = 3
            about 0 2 = 3
            """);
        holds("7: a PLAIN one shows all that is left", """
            order 1 0 sells PLAIN 10 20 0 = 0
            reduce 1 0 1 = 19
            about 0 2 = 19
            depth 0 sells 10 = 19
            level 0 sells 0 2 = 19
            shares 1 0 1 = 19
            """);
    }

    private static void reduceKeepsTheTurn() {
        holds("7: its turn stays", """
            order 1 0 sells PLAIN 10 5 0 = 0
            order 2 0 sells PLAIN 10 5 0 = 1
            order 1 0 sells LAYERED 10 5 2 = 2
            reduce 1 0 4 = 1
            ahead 0 = 0
            ahead 1 = 1
            reduce 1 2 4 = 1
            ahead 2 = 6
            order 3 0 sells PLAIN 10 5 0 = 3
            ahead 3 = 7
            order 3 0 buys NOW 10 2 0 = 4
            trade 0 1 = 0
            trade 0 3 = 1
            trade 1 1 = 1
            """);
    }

    private static void until() {
        wrongOrders("8", "until", "9");
        Sentence.holds("8: it is not there any more, and should end at no time", GONE + """
            until 1 0 0 = state
            until 1 4 0 = state
            until 1 10 0 = state
            """);
        holds("8: time is below 0", """
            order 1 0 buys PLAIN 10 5 0 = 0
            until 1 0 LEAST = argument
            until 1 0 -1 = argument
            about 0 4 = 0
            until 1 0 0 = ok
            about 0 4 = 0
            until 1 0 1 = ok
            about 0 4 = 1
            until 1 0 MOST = ok
            about 0 4 = 2147483647
            until 1 0 -1 = argument
            """);
        holds("8: time is not 0 and not above TIME", """
            order 1 0 buys PLAIN 10 5 0 = 0
            order 1 0 buys STOP 10 5 5 = 1
            pass 7 = 0
            until 1 0 1 = state
            until 1 0 6 = state
            until 1 0 7 = state
            until 1 0 8 = ok
            until 1 0 7 = state
            about 0 4 = 8
            until 1 0 0 = ok
            about 0 4 = 0
            until 1 1 7 = state
            until 1 1 8 = ok
            about 1 4 = 8
            """);
        Sentence.holds("8: the exceptions in their order", GONE + """
            until 512 0 -1 = index
            until 1 11 -1 = index
            until 2 0 -1 = argument
            until 2 0 5 = argument
            until 1 2 5 = argument
            until 1 0 -1 = argument
            until 1 0 5 = state
            until 1 0 9 = state
            until 2 2 -1 = argument
            until 2 2 5 = state
            until 2 2 6 = ok
            """);
        holds("8: the time may be told anew", """
            order 1 0 buys PLAIN 10 5 0 = 0
            order 1 0 buys PLAIN 10 5 0 = 1
            order 1 0 buys PLAIN 10 5 0 = 2
            until 1 0 5
            until 1 0 9
            until 1 1 9
            until 1 1 5
            until 1 2 5
            until 1 2 0
            pass 5 = 1
            about 1 3 = 3
            about 0 3 = 0
            pass 3 = 0
            pass 1 = 1
            about 0 3 = 3
            pass 1000000 = 0
            about 2 3 = 0
            """);
    }

    private static void pass() {
        Sentence.holds("9: n is not 0 .. 1000000", """
            pass LEAST = argument
            pass -1 = argument
            pass 0 = 0
            count 4 = 0
            pass 1 = 0
            count 4 = 1
            pass 1000000 = 0
            count 4 = 1000001
            pass 1000001 = argument
            pass MOST = argument
            count 4 = 1000001
            """);
        Sentence.holds("9: TIME goes on, as far as an object's calls can bring it", """
            400 x pass 1000000
            count 4 = 400000000
            pass 1000001 = argument
            """);
        holds("9: how many orders ended", """
            order 1 0 buys PLAIN 10 5 0 = 0
            order 1 0 sells PLAIN 20 5 0 = 1
            order 1 0 buys STOP 10 5 5 = 2
            order 1 0 buys LAYERED 10 5 2 = 3
            order 1 0 buys QUIET 10 5 0 = 4
            until 1 0 10
            until 1 1 9
            until 1 2 10
            until 1 3 11
            pass 8 = 0
            count 2 = 5
            pass 0 = 0
            pass 1 = 1
            pass 0 = 0
            pass 1 = 2
            pass 1 = 1
            pass 1 = 0
            count 2 = 1
            about 4 3 = 0
            """);
        Sentence.holds("9: how many orders ended, of all that can be there", """
            deposit 1 10000
            100 x order 1 0 buys PLAIN 10 1 0
            until 1 0 1000000
            until 1 99 999999
            until 1 50 1000001
            pass 1000000 = 2
            count 2 = 98
            pass 1000000 = 1
            cash 1 1 = 970
            """);
    }

    private static void endings() {
        holds("when TIME comes there, it is cancelled", """
            order 1 0 buys PLAIN 10 5 0 = 0
            order 1 0 sells STOP 10 5 5 = 1
            until 1 0 3
            until 1 1 3
            pass 2 = 0
            about 0 3 = 0
            about 1 3 = 1
            pass 1 = 2
            about 0 1 = 0
            about 0 2 = 0
            about 0 3 = 3
            about 1 3 = 3
            best 0 buys = none
            cash 1 1 = 0
            shares 1 0 1 = 0
            ahead 0 = none
            cancel 1 0 = state
            """);
        holds("when TIME goes beyond it in one step, it is cancelled, too", """
            order 1 0 buys PLAIN 10 5 0 = 0
            order 1 0 buys PLAIN 10 5 0 = 1
            until 1 0 1
            until 1 1 999999
            pass 1000000 = 2
            """);
        holds("if it is still there", """
            order 1 0 buys PLAIN 10 5 0 = 0
            order 1 0 buys PLAIN 10 5 0 = 1
            order 1 0 buys PLAIN 10 5 0 = 2
            until 1 0 3
            until 1 1 3
            until 1 2 3
            order 2 0 sells NOW 10 6 0 = 3
            cancel 1 2 = 5
            pass 3 = 1
            about 0 3 = 2
            about 1 3 = 3
            about 1 5 = 1
            about 2 3 = 3
            """);
        holds("a stop that became PLAIN ends at its time, too", """
            order 1 0 buys STOP 10 5 20 = 0
            until 1 0 3
            order 2 0 sells PLAIN 20 1 0 = 1
            order 3 0 buys NOW 20 1 0 = 2
            about 0 3 = 0
            about 0 4 = 3
            pass 3 = 1
            about 0 3 = 3
            """);
        holds("one that was reduced or traded in part ends at its time, too", """
            order 1 0 buys PLAIN 10 5 0 = 0
            order 1 0 buys LAYERED 9 5 2 = 1
            order 1 0 buys STOP 9 5 20 = 2
            until 1 0 3
            until 1 1 3
            until 1 2 3
            reduce 1 0 1 = 4
            reduce 1 1 4 = 1
            reduce 1 2 2 = 3
            order 2 0 sells NOW 10 1 0 = 3
            about 0 4 = 3
            about 1 4 = 3
            about 2 4 = 3
            pass 2 = 0
            pass 1 = 3
            cash 1 1 = 0
            """);
        holds("one in the middle of the book ends", """
            order 1 0 sells PLAIN 10 1 0 = 0
            order 1 0 sells PLAIN 10 2 0 = 1
            order 1 0 sells PLAIN 10 4 0 = 2
            until 1 1 3
            pass 3 = 1
            ahead 2 = 1
            level 0 sells 0 1 = 2
            depth 0 sells 10 = 5
            """);
    }
}
