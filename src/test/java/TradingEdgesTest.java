/** The boundaries that the section 'Terms' names for orders that trade, rest, layer or wait, sentence by sentence. */
public final class TradingEdgesTest {
    /** Accounts 1 to 4 with plenty of cash and of shares of the symbol 0. */
    private static final String RICH = """
        deposit 1 1000000000
        deposit 2 1000000000
        deposit 3 1000000000
        deposit 4 1000000000
        grant 1 0 1000000
        grant 2 0 1000000
        grant 3 0 1000000
        grant 4 0 1000000
        """;

    public static void main(String[] args) {
        pricesThatAllow();
        theLesserAmount();
        turns();
        ownAccount();
        whatIsLeft();
        whole();
        wholeInTheWay();
        quiet();
        layersAtFirst();
        layersInTurn();
        stopsAtTheirPrice();
        stopsAtTheEnds();
        stopsWithoutTrade();
        stopsThatMayAtOnce();
        stopsByNumber();
        stopsBehindStops();
        stopsAsPlainOnes();
        behindThreeHundredTrades();
        Check.end();
    }

    private static void holds(String words, String lines) {
        Sentence.holds(words, RICH + lines);
    }

    private static void pricesThatAllow() {
        holds("a buying one with selling ones that are not dearer", """
            order 2 0 sells PLAIN 10 5 0 = 0
            order 1 0 buys NOW 9 1 0 = 1
            count 0 = 0
            order 1 0 buys NOW 10 1 0 = 2
            count 0 = 1
            trade 0 2 = 10
            order 1 0 buys NOW 11 1 0 = 3
            count 0 = 2
            trade 1 2 = 10
            """);
        holds("a selling one with buying ones that are not cheaper", """
            order 2 0 buys PLAIN 10 5 0 = 0
            order 1 0 sells NOW 11 1 0 = 1
            count 0 = 0
            order 1 0 sells NOW 10 1 0 = 2
            count 0 = 1
            trade 0 2 = 10
            order 1 0 sells NOW 9 1 0 = 3
            count 0 = 2
            trade 1 2 = 10
            """);
        holds("if the prices allow, of the least and the greatest price", """
            order 2 0 sells PLAIN 1 1 0 = 0
            order 1 0 buys PLAIN 1 1 0 = 1
            trade 0 2 = 1
            order 2 0 sells PLAIN 10000 1 0 = 2
            order 1 0 buys PLAIN 10000 1 0 = 3
            trade 1 2 = 10000
            order 2 0 buys PLAIN 10000 1 0 = 4
            order 1 0 sells PLAIN 1 1 0 = 5
            trade 2 2 = 10000
            order 2 0 sells PLAIN 1 1 0 = 6
            order 1 0 buys PLAIN 10000 1 0 = 7
            trade 3 2 = 1
            count 0 = 4
            """);
        holds("as long as the prices allow, and no further", """
            order 2 0 sells PLAIN 10 1 0 = 0
            order 2 0 sells PLAIN 11 1 0 = 1
            order 2 0 sells PLAIN 12 1 0 = 2
            order 1 0 buys PLAIN 11 3 0 = 3
            count 0 = 2
            about 3 1 = 1
            about 3 3 = 0
            best 0 sells = 12
            best 0 buys = 11
            """);
        holds("the first one of the other side's book, if there is none", """
            order 1 0 buys PLAIN 10000 1 0 = 0
            count 0 = 0
            best 0 buys = 10000
            best 0 sells = none
            """);
    }

    private static void theLesserAmount() {
        holds("they trade the lesser of what is left of it and what the other one shows", """
            order 2 0 sells PLAIN 10 5 0 = 0
            order 1 0 buys PLAIN 10 4 0 = 1
            trade 0 3 = 4
            about 0 1 = 1
            about 0 3 = 0
            about 1 3 = 2
            order 1 0 buys PLAIN 10 1 0 = 2
            trade 1 3 = 1
            about 0 3 = 2
            about 2 3 = 2
            order 2 0 sells PLAIN 10 5 0 = 3
            order 1 0 buys PLAIN 10 6 0 = 4
            trade 2 3 = 5
            about 3 3 = 2
            about 4 1 = 1
            about 4 3 = 0
            count 0 = 3
            """);
        holds("they trade the least and the greatest amount", """
            order 2 0 sells PLAIN 10 10000 0 = 0
            order 1 0 buys PLAIN 10 1 0 = 1
            order 1 0 buys PLAIN 10 9999 0 = 2
            trade 0 3 = 1
            trade 1 3 = 9999
            order 2 0 sells PLAIN 10 10000 0 = 3
            order 1 0 buys PLAIN 10 10000 0 = 4
            trade 2 3 = 10000
            count 2 = 0
            """);
        holds("a buyer that would have paid more holds so much less", """
            order 2 0 sells PLAIN 7 5 0 = 0
            order 1 0 buys PLAIN 10 8 0 = 1
            cash 1 0 = 999999965
            cash 1 1 = 30
            cash 2 0 = 1000000035
            order 2 0 sells PLAIN 7 3 0 = 2
            cash 1 0 = 999999935
            cash 1 1 = 0
            cash 2 0 = 1000000065
            shares 1 0 0 = 1000008
            shares 2 0 0 = 999992
            shares 2 0 1 = 0
            """);
    }

    private static void turns() {
        holds("buying ones from the greatest; at the same price by their turns", """
            order 1 0 buys PLAIN 10 1 0 = 0
            order 1 0 buys PLAIN 11 1 0 = 1
            order 1 0 buys PLAIN 9 1 0 = 2
            order 1 0 buys PLAIN 10 1 0 = 3
            order 2 0 sells PLAIN 9 4 0 = 4
            trade 0 1 = 1
            trade 1 1 = 0
            trade 2 1 = 3
            trade 3 1 = 2
            """);
        holds("selling ones from the least; at the same price by their turns", """
            order 1 0 sells PLAIN 10 1 0 = 0
            order 1 0 sells PLAIN 9 1 0 = 1
            order 1 0 sells PLAIN 11 1 0 = 2
            order 1 0 sells PLAIN 10 1 0 = 3
            order 2 0 buys PLAIN 11 4 0 = 4
            trade 0 1 = 1
            trade 1 1 = 0
            trade 2 1 = 3
            trade 3 1 = 2
            """);
        holds("one that came and traded RESTS as the last one at its price", """
            order 2 0 sells PLAIN 11 1 0 = 0
            order 3 0 buys PLAIN 10 4 0 = 1
            order 1 0 buys PLAIN 11 3 0 = 2
            ahead 2 = 0
            order 4 0 buys PLAIN 11 5 0 = 3
            ahead 3 = 2
            order 4 0 buys LAYERED 10 5 1 = 4
            ahead 4 = 4
            """);
    }

    private static void ownAccount() {
        for (String kind : new String[] {"PLAIN", "NOW", "WHOLE", "QUIET", "LAYERED"}) {
            holds("It is STOPPED, if the first one is of its own account: " + kind, """
                order 1 0 sells PLAIN 10 5 0 = 0
                order 2 0 sells PLAIN 10 5 0 = 1
                order 1 0 buys KIND 10 6 1 = 2
                about 2 1 = 0
                about 2 2 = 0
                about 2 3 = 3
                about 2 5 = 0
                about 0 1 = 5
                about 1 1 = 5
                cash 1 1 = 0
                count 0 = 0
                count 2 = 2
                """.replace("KIND", kind));
        }
        for (String kind : new String[] {"PLAIN", "LAYERED"}) {
            holds("It is not STOPPED, if one of its own account is too dear: " + kind, """
                order 1 0 sells PLAIN 11 5 0 = 0
                order 2 0 sells PLAIN 10 5 0 = 1
                order 1 0 buys KIND 10 6 1 = 2
                about 2 3 = 0
                about 2 1 = 1
                about 2 5 = 5
                """.replace("KIND", kind));
        }
        for (String kind : new String[] {"PLAIN", "NOW", "LAYERED"}) {
            holds("what is left of it being cancelled: " + kind, """
                order 2 0 sells PLAIN 10 4 0 = 0
                order 1 0 sells PLAIN 10 4 0 = 1
                order 3 0 sells PLAIN 10 4 0 = 2
                order 1 0 buys KIND 10 12 1 = 3
                about 3 1 = 0
                about 3 3 = 3
                about 3 5 = 4
                about 1 1 = 4
                about 2 1 = 4
                cash 1 0 = 999999960
                cash 1 1 = 0
                count 0 = 1
                """.replace("KIND", kind));
        }
        for (String kind : new String[] {"PLAIN", "NOW", "WHOLE", "LAYERED"}) {
            holds("as long as some of it is left: one that is traded wholly is not STOPPED: " + kind, """
                order 2 0 buys PLAIN 10 4 0 = 0
                order 1 0 buys PLAIN 10 4 0 = 1
                order 1 0 sells KIND 10 4 1 = 2
                about 2 3 = 2
                about 2 5 = 4
                about 1 1 = 4
                """.replace("KIND", kind));
        }
        holds("one of its own account at another symbol or on its own side is not in the way", """
            grant 1 1 10
            order 1 1 sells PLAIN 10 5 0 = 0
            order 1 0 buys PLAIN 10 5 0 = 1
            order 1 0 buys PLAIN 10 5 0 = 2
            about 1 3 = 0
            about 2 3 = 0
            """);
        holds("a STOP that became PLAIN is STOPPED, too", """
            order 1 0 sells PLAIN 10 5 0 = 0
            order 1 0 buys STOP 10 5 8 = 1
            order 2 0 sells PLAIN 8 1 0 = 2
            order 3 0 buys PLAIN 8 1 0 = 3
            about 1 3 = 3
            about 1 1 = 0
            about 0 1 = 5
            cash 1 1 = 0
            count 0 = 1
            count 2 = 1
            """);
        for (String kind : new String[] {"PLAIN", "QUIET", "LAYERED"}) {
            holds("It is STOPPED by one of its own account, whatever kind that is: " + kind, """
                order 2 0 sells PLAIN 10 1 0 = 0
                order 1 0 sells KIND 10 9 4 = 1
                order 1 0 buys WHOLE 10 2 0 = 2
                about 2 3 = 3
                about 2 5 = 0
                order 1 0 buys PLAIN 10 2 0 = 3
                about 3 3 = 3
                about 3 5 = 1
                order 1 0 buys LAYERED 10 2 1 = 4
                about 4 3 = 3
                about 4 5 = 0
                about 1 1 = 9
                about 1 5 = 0
                count 0 = 1
                count 2 = 1
                """.replace("KIND", kind));
        }
    }

    private static void whatIsLeft() {
        holds("A PLAIN or LAYERED one: what is left then RESTS", """
            order 2 0 sells PLAIN 10 5 0 = 0
            order 1 0 buys PLAIN 10 6 0 = 1
            about 1 1 = 1
            about 1 3 = 0
            about 1 5 = 5
            cancel 1 1 = 1
            order 2 0 sells PLAIN 10 5 0 = 2
            order 1 0 buys LAYERED 10 8 2 = 3
            about 3 1 = 3
            about 3 2 = 2
            about 3 3 = 0
            about 3 5 = 5
            trade 1 3 = 5
            """);
        holds("NOW: what is left is cancelled", """
            order 1 0 buys NOW 10 5 0 = 0
            about 0 3 = 3
            about 0 5 = 0
            order 2 0 sells PLAIN 10 5 0 = 1
            order 1 0 buys NOW 10 6 0 = 2
            about 2 3 = 3
            about 2 5 = 5
            about 2 1 = 0
            cash 1 1 = 0
            order 2 0 sells PLAIN 10 5 0 = 3
            order 1 0 buys NOW 10 5 0 = 4
            about 4 3 = 2
            about 4 5 = 5
            count 2 = 0
            """);
    }

    private static void whole() {
        holds("WHOLE: it is cancelled at once, the book being empty", """
            order 1 0 buys WHOLE 10000 1 0 = 0
            about 0 3 = 3
            order 1 0 sells WHOLE 1 1 0 = 1
            about 1 3 = 3
            count 2 = 0
            """);
        holds("WHOLE: it buys wholly or not at all", """
            order 2 0 sells PLAIN 10 4 0 = 0
            order 3 0 sells PLAIN 11 4 0 = 1
            order 4 0 sells PLAIN 12 4 0 = 2
            order 1 0 buys WHOLE 11 9 0 = 3
            about 3 3 = 3
            order 1 0 buys WHOLE 10 5 0 = 4
            about 4 3 = 3
            order 1 0 buys WHOLE 9 1 0 = 5
            about 5 3 = 3
            count 0 = 0
            cash 1 1 = 0
            order 1 0 buys WHOLE 11 8 0 = 6
            about 6 3 = 2
            count 0 = 2
            about 2 1 = 4
            """);
        holds("WHOLE: it sells wholly or not at all", """
            order 2 0 buys PLAIN 12 4 0 = 0
            order 3 0 buys PLAIN 11 4 0 = 1
            order 4 0 buys PLAIN 10 4 0 = 2
            order 1 0 sells WHOLE 11 9 0 = 3
            about 3 3 = 3
            order 1 0 sells WHOLE 12 5 0 = 4
            about 4 3 = 3
            order 1 0 sells WHOLE 13 1 0 = 5
            about 5 3 = 3
            count 0 = 0
            shares 1 0 1 = 0
            order 1 0 sells WHOLE 11 8 0 = 6
            about 6 3 = 2
            count 0 = 2
            about 2 1 = 4
            """);
        holds("WHOLE: all that may be traded at any of the prices, and one more", """
            order 2 0 sells PLAIN 10 4 0 = 0
            order 3 0 sells PLAIN 11 4 0 = 1
            order 4 0 sells PLAIN 12 4 0 = 2
            order 1 0 buys WHOLE 12 13 0 = 3
            about 3 3 = 3
            count 0 = 0
            order 1 0 buys WHOLE 12 12 0 = 4
            about 4 3 = 2
            count 0 = 3
            best 0 sells = none
            """);
        holds("WHOLE: what a LAYERED one does not show is traded, too", """
            order 2 0 sells LAYERED 10 10 3 = 0
            order 1 0 buys WHOLE 10 11 0 = 1
            about 1 3 = 3
            count 0 = 0
            order 1 0 buys WHOLE 10 10 0 = 2
            about 2 3 = 2
            count 0 = 4
            trade 2 3 = 3
            trade 3 3 = 1
            """);
    }

    private static void wholeInTheWay() {
        holds("WHOLE: one of its own account is in the way", """
            order 2 0 sells PLAIN 10 4 0 = 0
            order 1 0 sells PLAIN 10 4 0 = 1
            order 2 0 sells PLAIN 10 4 0 = 2
            order 1 0 buys WHOLE 10 5 0 = 3
            about 3 3 = 3
            about 3 5 = 0
            order 1 0 buys WHOLE 10 4 0 = 4
            about 4 3 = 2
            order 1 0 buys WHOLE 10 1 0 = 5
            about 5 3 = 3
            """);
        holds("WHOLE: one of its own account is in the way behind two others", """
            order 2 0 buys PLAIN 10 3 0 = 0
            order 3 0 buys PLAIN 10 4 0 = 1
            order 1 0 buys PLAIN 10 5 0 = 2
            order 1 0 sells WHOLE 10 8 0 = 3
            about 3 3 = 3
            count 0 = 0
            order 1 0 sells WHOLE 10 7 0 = 4
            about 4 3 = 2
            count 0 = 2
            about 2 1 = 5
            """);
        holds("WHOLE: one of its own account is too dear to be in the way", """
            order 2 0 sells PLAIN 10 4 0 = 0
            order 1 0 sells PLAIN 11 4 0 = 1
            order 1 0 buys WHOLE 10 4 0 = 2
            about 2 3 = 2
            """);
        holds("WHOLE: what is shown next stands behind the one that is in the way", """
            order 2 0 sells LAYERED 10 10 3 = 0
            order 1 0 sells PLAIN 10 1 0 = 1
            order 1 0 buys WHOLE 10 4 0 = 2
            about 2 3 = 3
            order 1 0 buys WHOLE 10 3 0 = 3
            about 3 3 = 2
            about 0 1 = 7
            ahead 0 = 1
            """);
        holds("WHOLE: all of a better price comes before the one that is in the way", """
            order 2 0 sells LAYERED 9 10 3 = 0
            order 2 0 sells LAYERED 10 10 3 = 1
            order 1 0 sells PLAIN 10 1 0 = 2
            order 1 0 buys WHOLE 10 14 0 = 3
            about 3 3 = 3
            order 1 0 buys WHOLE 10 13 0 = 4
            about 4 3 = 2
            about 1 1 = 7
            """);
    }

    private static void quiet() {
        holds("QUIET: it RESTS, the book being empty", """
            order 1 0 buys QUIET 10000 1 0 = 0
            about 0 3 = 0
            cancel 1 0 = 1
            order 1 0 sells QUIET 1 1 0 = 1
            about 1 3 = 0
            """);
        holds("QUIET: it is cancelled at once, if it buys at a price that would allow a trade", """
            order 2 0 sells PLAIN 10 5 0 = 0
            order 1 0 buys QUIET 9 1 0 = 1
            about 1 3 = 0
            order 1 0 buys QUIET 10 1 0 = 2
            about 2 3 = 3
            order 1 0 buys QUIET 11 1 0 = 3
            about 3 3 = 3
            count 0 = 0
            cash 1 1 = 9
            """);
        holds("QUIET: it is cancelled at once, if it sells at a price that would allow a trade", """
            order 2 0 buys PLAIN 10 5 0 = 0
            order 1 0 sells QUIET 11 1 0 = 1
            about 1 3 = 0
            order 1 0 sells QUIET 10 1 0 = 2
            about 2 3 = 3
            order 1 0 sells QUIET 9 1 0 = 3
            about 3 3 = 3
            count 0 = 0
            shares 1 0 1 = 1
            """);
        holds("QUIET: it is traded as others are, when it rests", """
            order 1 0 buys QUIET 10 5 0 = 0
            order 2 0 sells PLAIN 10 5 0 = 1
            about 0 3 = 2
            """);
    }

    private static void layersAtFirst() {
        holds("LAYERED, which shows at most so many at a time", """
            order 1 0 buys LAYERED 10 5 6 = 0
            about 0 2 = 5
            order 1 0 buys LAYERED 10 5 5 = 1
            about 1 2 = 5
            order 1 0 buys LAYERED 10 5 4 = 2
            about 2 2 = 4
            about 2 1 = 5
            order 1 0 buys LAYERED 10 10000 1 = 3
            about 3 2 = 1
            order 1 0 buys LAYERED 10 10000 9999 = 4
            about 4 2 = 9999
            order 1 0 buys LAYERED 10 10000 10000 = 5
            about 5 2 = 10000
            order 1 0 buys LAYERED 10 1 10000 = 6
            about 6 2 = 1
            cash 1 1 = 300160
            """);
        holds("when that is gone, it shows the next of what is left (at most so many)", """
            order 2 0 sells LAYERED 10 8 3 = 0
            order 1 0 buys NOW 10 2 0 = 1
            about 0 1 = 6
            about 0 2 = 1
            order 1 0 buys NOW 10 1 0 = 2
            about 0 1 = 5
            about 0 2 = 3
            order 1 0 buys NOW 10 3 0 = 3
            about 0 1 = 2
            about 0 2 = 2
            order 1 0 buys NOW 10 2 0 = 4
            about 0 1 = 0
            about 0 2 = 0
            about 0 3 = 2
            best 0 sells = none
            count 0 = 4
            """);
    }

    private static void layersInTurn() {
        holds("it shows the next as the last one at its price", """
            order 2 0 sells LAYERED 10 6 3 = 0
            order 3 0 sells PLAIN 10 4 0 = 1
            order 3 0 sells PLAIN 11 4 0 = 2
            order 1 0 buys NOW 10 2 0 = 3
            ahead 0 = 0
            ahead 1 = 1
            order 1 0 buys NOW 10 1 0 = 4
            ahead 1 = 0
            ahead 0 = 4
            ahead 2 = 0
            order 1 0 buys NOW 11 9 0 = 5
            trade 2 1 = 1
            trade 3 1 = 0
            trade 3 3 = 3
            trade 4 1 = 2
            trade 4 3 = 2
            """);
        holds("it shows the next, being the only one at its price", """
            order 2 0 buys LAYERED 10 6 3 = 0
            order 3 0 buys PLAIN 9 4 0 = 1
            order 1 0 sells NOW 9 7 0 = 2
            trade 0 1 = 0
            trade 0 3 = 3
            trade 1 1 = 0
            trade 1 3 = 3
            trade 2 1 = 1
            trade 2 3 = 1
            """);
        holds("two LAYERED ones take turns", """
            order 2 0 buys LAYERED 10 4 2 = 0
            order 3 0 buys LAYERED 10 3 1 = 1
            order 1 0 sells PLAIN 10 8 0 = 2
            trade 0 1 = 0
            trade 1 1 = 1
            trade 2 1 = 0
            trade 3 1 = 1
            trade 4 1 = 1
            count 0 = 5
            about 2 1 = 1
            """);
    }

    /** Account 2 sells one to account 3. */
    private static String saleAt(int price) {
        return "order 2 0 sells PLAIN " + price + " 1 0\norder 3 0 buys NOW " + price + " 1 0\n";
    }

    private static void stopsAtTheirPrice() {
        String buys = "order 1 0 buys STOP 5 1 20 = 0\n";
        holds("at its EXTRA or above (if it buys): below", buys + saleAt(19) + "about 0 3 = 1\nabout 0 2 = 0");
        holds("at its EXTRA or above (if it buys): at it", buys + saleAt(20) + "about 0 3 = 0\nabout 0 2 = 1");
        holds("at its EXTRA or above (if it buys): above", buys + saleAt(21) + "about 0 3 = 0\nabout 0 2 = 1");
        String sells = "order 1 0 sells STOP 50 1 20 = 0\n";
        holds("at it or below (if it sells): above", sells + saleAt(21) + "about 0 3 = 1\nabout 0 2 = 0");
        holds("at it or below (if it sells): at it", sells + saleAt(20) + "about 0 3 = 0\nabout 0 2 = 1");
        holds("at it or below (if it sells): below", sells + saleAt(19) + "about 0 3 = 0\nabout 0 2 = 1");
        holds("the LAST price is that of the latest trade alone", """
            order 2 0 sells PLAIN 20 1 0 = 0
            order 3 0 buys NOW 20 1 0 = 1
            order 2 0 sells PLAIN 19 1 0 = 2
            order 3 0 buys NOW 19 1 0 = 3
            order 1 0 buys STOP 5 1 20 = 4
            about 4 3 = 1
            order 2 0 sells PLAIN 20 1 0 = 5
            about 4 3 = 1
            order 3 0 buys NOW 20 1 0 = 6
            about 4 3 = 0
            """);
        holds("the last of several trades of one order counts", """
            order 1 0 buys STOP 5 1 20 = 0
            order 2 0 buys PLAIN 20 1 0 = 1
            order 2 0 buys PLAIN 19 1 0 = 2
            order 3 0 sells NOW 19 2 0 = 3
            symbol 0 0 = 19
            about 0 3 = 1
            """);
        holds("only stops of the symbol are looked at", """
            grant 2 1 10
            order 1 0 buys STOP 5 1 1 = 0
            order 1 0 sells STOP 50 1 10000 = 1
            order 2 1 sells PLAIN 20 1 0 = 2
            order 3 1 buys PLAIN 20 1 0 = 3
            about 0 3 = 1
            about 1 3 = 1
            """);
    }

    private static void stopsAtTheEnds() {
        String buys = "order 1 0 buys STOP 5 1 10000 = 0\n";
        holds("the greatest EXTRA, of one that buys", buys + saleAt(9999) + "about 0 3 = 1");
        holds("the greatest EXTRA, of one that buys", buys + saleAt(10000) + "about 0 3 = 0");
        String sells = "order 1 0 sells STOP 50 1 1 = 0\n";
        holds("the least EXTRA, of one that sells", sells + saleAt(2) + "about 0 3 = 1");
        holds("the least EXTRA, of one that sells", sells + saleAt(1) + "about 0 3 = 0");
        holds("the least EXTRA, of one that buys", "order 1 0 buys STOP 5 1 1 = 0\n" + saleAt(1) + "about 0 3 = 0");
        holds("the greatest EXTRA, of one that sells",
            "order 1 0 sells STOP 50 1 10000 = 0\n" + saleAt(10000) + "about 0 3 = 0");
    }

    private static void stopsWithoutTrade() {
        holds("Without a trade so far there is no LAST price", """
            order 1 0 buys STOP 10 1 1 = 0
            order 1 0 sells STOP 10 1 10000 = 1
            order 2 0 buys PLAIN 5 1 0 = 2
            order 3 0 sells PLAIN 20 1 0 = 3
            order 3 0 sells NOW 6 1 0 = 4
            about 0 3 = 1
            about 1 3 = 1
            count 0 = 0
            count 2 = 4
            best 0 buys = 5
            best 0 sells = 20
            """);
        holds("A STOP waits in no book", """
            order 1 0 buys STOP 10 4 1 = 0
            best 0 buys = none
            depth 0 buys 0 = 0
            depth 0 buys 10 = 0
            level 0 buys 0 0 = index
            ahead 0 = none
            about 0 1 = 4
            about 0 2 = 0
            order 2 0 sells NOW 10 4 0 = 1
            count 0 = 0
            """);
    }

    private static void stopsThatMayAtOnce() {
        holds("That is looked at when an order was taken, the stop itself among them", saleAt(20) + """
            order 1 0 buys STOP 5 1 21 = 2
            about 2 3 = 1
            order 1 0 buys STOP 5 1 20 = 3
            about 3 3 = 0
            order 1 0 sells STOP 50 1 19 = 4
            about 4 3 = 1
            order 1 0 sells STOP 50 1 20 = 5
            about 5 3 = 0
            """);
        holds("then it becomes PLAIN, and trades, at once", saleAt(20) + """
            order 4 0 sells PLAIN 30 5 0 = 2
            order 1 0 buys STOP 30 6 1 = 3
            trade 1 0 = 3
            trade 1 1 = 2
            trade 1 2 = 30
            trade 1 3 = 5
            about 3 1 = 1
            about 3 3 = 0
            about 3 5 = 5
            cash 1 1 = 30
            symbol 0 0 = 30
            """);
    }

    private static void stopsByNumber() {
        holds("of all stops of the symbol that may, the one with the least number comes first", """
            order 4 0 buys STOP 30 1 10 = 0
            order 1 0 buys STOP 40 1 5 = 1
            order 2 0 buys STOP 50 1 9 = 2
            order 2 0 sells PLAIN 25 1 0 = 3
            order 2 0 sells PLAIN 26 1 0 = 4
            order 3 0 sells PLAIN 10 1 0 = 5
            order 4 0 buys PLAIN 10 1 0 = 6
            trade 1 0 = 0
            trade 1 1 = 3
            trade 2 0 = 1
            trade 2 1 = 4
            count 0 = 3
            about 2 3 = 0
            """);
        holds("one with a lesser number that may only now comes before one that might long since", """
            order 1 0 buys STOP 13 1 12 = 0
            order 2 0 buys STOP 12 1 11 = 1
            order 3 0 buys STOP 13 1 11 = 2
            order 4 0 sells PLAIN 11 1 0 = 3
            order 4 0 sells PLAIN 12 1 0 = 4
            order 4 0 sells PLAIN 13 1 0 = 5
            order 3 0 buys NOW 11 1 0 = 6
            trade 0 0 = 6
            trade 1 0 = 1
            trade 1 2 = 12
            trade 2 0 = 0
            trade 2 2 = 13
            count 0 = 3
            about 2 3 = 0
            """);
        holds("stops that buy and stops that sell come by their numbers alone", """
            order 1 0 sells STOP 9 1 10 = 0
            order 2 0 buys STOP 9 1 10 = 1
            order 3 0 sells PLAIN 10 1 0 = 2
            order 4 0 buys NOW 10 1 0 = 3
            trade 1 0 = 1
            trade 1 1 = 0
            """);
    }

    private static void stopsBehindStops() {
        holds("and behind each stop that became PLAIN", """
            order 1 0 buys STOP 12 1 11 = 0
            order 2 0 buys STOP 13 1 12 = 1
            order 3 0 buys STOP 14 1 13 = 2
            order 3 0 buys STOP 15 1 14 = 3
            order 4 0 sells PLAIN 11 1 0 = 4
            order 4 0 sells PLAIN 12 1 0 = 5
            order 4 0 sells PLAIN 13 1 0 = 6
            order 3 0 buys NOW 11 1 0 = 7
            count 0 = 3
            trade 1 0 = 0
            trade 2 0 = 1
            about 2 3 = 0
            about 3 3 = 1
            symbol 0 0 = 13
            """);
        holds("one that might wake, but may not when it is its turn, waits", """
            order 1 0 buys STOP 30 1 10 = 0
            order 2 0 sells STOP 50 1 10 = 1
            order 3 0 sells PLAIN 10 1 0 = 2
            order 3 0 sells PLAIN 11 1 0 = 3
            order 4 0 buys NOW 10 1 0 = 4
            trade 1 0 = 0
            trade 1 2 = 11
            about 1 3 = 1
            order 3 0 sells PLAIN 10 1 0 = 5
            about 1 3 = 1
            order 4 0 buys NOW 10 1 0 = 6
            about 1 3 = 0
            """);
        holds("as many stops as can be there wake one another", """
            order 3 0 sells LAYERED 10 100 1 = 0
            98 x order 1 0 buys STOP 10 1 10
            count 2 = 99
            order 2 0 buys PLAIN 10 1 0 = 99
            count 0 = 99
            count 2 = 1
            trade 98 0 = 98
            about 0 1 = 1
            about 98 3 = 2
            """);
    }

    private static void stopsAsPlainOnes() {
        holds("what is left of one that became PLAIN RESTS, as the last one at its price", """
            order 1 0 buys STOP 10 3 5 = 0
            order 3 0 buys PLAIN 10 4 0 = 1
            order 2 0 sells NOW 10 1 0 = 2
            about 0 3 = 0
            ahead 0 = 3
            ahead 1 = 0
            order 3 0 buys PLAIN 10 1 0 = 3
            ahead 3 = 6
            """);
        holds("one that became PLAIN waits no more", """
            order 1 0 buys STOP 10 3 20 = 0
            """ + saleAt(20) + saleAt(15) + """
            about 0 3 = 0
            best 0 buys = 10
            order 2 0 sells NOW 10 3 0 = 5
            about 0 3 = 2
            """);
        holds("a STOP that was reduced trades what is left of it", """
            order 1 0 buys STOP 20 3 20 = 0
            reduce 1 0 2 = 1
            order 4 0 sells PLAIN 20 5 0 = 1
            order 3 0 buys NOW 20 1 0 = 2
            about 0 3 = 2
            about 0 5 = 1
            about 1 1 = 3
            """);
        holds("a STOP that was cancelled or ended does not wake", """
            order 1 0 buys STOP 20 3 20 = 0
            order 1 0 buys STOP 20 3 20 = 1
            cancel 1 0 = 3
            until 1 1 5
            pass 5 = 1
            """ + saleAt(20) + """
            about 0 3 = 3
            about 1 3 = 3
            best 0 buys = none
            """);
    }

    private static void behindThreeHundredTrades() {
        holds("300 trades are kept; those behind them change hands and wake stops, too", """
            order 2 0 sells LAYERED 10 300 1 = 0
            order 3 0 buys NOW 10 300 0 = 1
            count 0 = 300
            order 1 0 buys STOP 30 1 20 = 2
            """ + saleAt(20) + """
            count 0 = 301
            trade 299 2 = 10
            trade 300 2 = index
            symbol 0 0 = 20
            about 2 3 = 0
            shares 2 0 3 = 301
            shares 3 0 2 = 301
            cash 3 0 = 999996980
            """);
        holds("as many trades as one order can have", """
            order 2 0 sells LAYERED 10 10000 1 = 0
            order 3 0 buys WHOLE 10 10000 0 = 1
            count 0 = 10000
            about 0 3 = 2
            about 1 3 = 2
            about 1 5 = 10000
            trade 299 3 = 1
            trade 300 3 = index
            """);
    }
}
