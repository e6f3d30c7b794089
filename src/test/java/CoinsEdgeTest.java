/** The edges of prices, coins, kindness and keys: part 1 of the document, promises 7 to 10. */
public final class CoinsEdgeTest {
    public static void main(String[] args) {
        coins();
        firstPrices();
        priceEdges();
        pricesRefused();
        theSumIsNothingThen();
        divisionsCut();
        owesNoMore();
        kindness();
        groove();
        keysWithoutCredit();
        keyEdges();
        keysInVain();
        Due.end();
    }

    private static void coins() {
        Edge.holds("1 COINS are 1 .. 99", "coin 1 = 0; count 4 = 1; coin 99 = 12; count 4 = 100; count 2 = 12");
        Edge.holds("8 BAD", "coin 7 = 0" + Edge.each("coin #", "0 -1 100 MIN MAX", "BAD") + "coin 3 = 1; count 4 = 10");
    }

    private static void firstPrices() {
        Edge.holds("1 10, 25 and 3 at first", "coin 9 = 0; coin 1 = 1; coin 9 = 1; coin 1 = 2; coin 4 = 2; coin 1 = 3; coin 9 = 3; coin 1 = 4; "
            + "coin 10 = 5; coin 4 = 5; coin 1 = 6");
        Edge.holds("1 one coin over several bounds", "coin 99 = 11; coin 1 = 12; coin 99 = 23; coin 99 = 35");
        Edge.holds("1 the same prices, set", "prices 10 25 3 = 1; coin 9 = 0; coin 1 = 1; coin 14 = 2; coin 1 = 3");
    }

    private static void priceEdges() {
        Edge.holds("1 p (1 .. 99)", "prices 1 999 20 = 1; coin 1 = 1; coin 99 = 100; prices 99 999 20 = 1; coin 98 = 100; coin 1 = 101");
        Edge.holds("1 q (p .. 999): p", "prices 99 99 1 = 1; coin 98 = 0; coin 1 = 1; prices 1 1 1 = 1; coin 1 = 2; coin 99 = 101");
        Edge.holds("1 q (p .. 999): 999", "prices 99 999 20 = 1; coin 99 x 10; count 2 = 10; coin 8 = 10; coin 1 = 20; count 4 = 999");
        Edge.holds("1 m SONGS (1 .. 20)", "prices 50 50 1 = 1; coin 50 = 1; prices 50 50 20 = 1; coin 50 = 21");
    }

    private static void pricesRefused() {
        String paid = "prices 7 30 4; coin 29 = 4; ";
        String still = "coin 1 = 4; coin 6 = 4; coin 1 = 5";
        Edge.holds("7 BAD: p", paid + Edge.each("prices # 200 3", "0 -1 100 MIN MAX", "BAD") + still);
        Edge.holds("7 BAD: q", paid + Edge.each("prices 10 # 3", "9 0 -1 1000 MIN MAX", "BAD") + still);
        Edge.holds("7 BAD: q one below p", paid + "prices 99 98 3 = BAD; prices 1 0 3 = BAD; prices 2 1 3 = BAD; prices 50 49 3 = BAD; " + still);
        Edge.holds("7 BAD: m", paid + Edge.each("prices 10 25 #", "0 -1 21 MIN MAX", "BAD") + still);
        Edge.holds("7 BAD: several", paid + "prices 0 1000 3 = BAD; prices 100 25 0 = BAD; prices 10 9 21 = BAD; prices 0 0 0 = BAD; "
            + "prices MIN MAX MIN = BAD; prices -5 -5 1 = BAD; " + still);
    }

    private static void theSumIsNothingThen() {
        Edge.holds("7 S is 0 from then on", "coin 24 = 2; prices 10 25 3 = 1; coin 1 = 2; coin 8 = 2; coin 1 = 3; count 4 = 34");
        Edge.holds("7 CREDITS stay", "coin 25 = 3; prices 99 999 1 = 1; count 2 = 3; count 4 = 25; key 0 = 2");
    }

    private static void divisionsCut() {
        Edge.holds("1 m times S by q, and what is left by p", "prices 4 10 3 = 1; coin 3 = 0; coin 1 = 1; coin 3 = 1; coin 1 = 2; coin 1 = 2; coin 1 = 3; "
            + "coin 3 = 3; coin 1 = 4; coin 4 = 5; coin 2 = 6");
        Edge.holds("1 nothing is left by p, if q is p", "prices 5 5 2 = 1; coin 4 = 0; coin 1 = 2; coin 4 = 2; coin 1 = 4; coin 99 = 42; coin 1 = 44");
    }

    private static void owesNoMore() {
        Edge.holds("1 nothing, if that is no more: less", "prices 10 50 1 = 1; coin 49 = 4; coin 1 = 4; coin 9 = 4; coin 1 = 5; coin 40 = 5; coin 10 = 6");
        Edge.holds("1 nothing, if that is no more: as much", "prices 10 30 2 = 1; coin 20 = 2; coin 9 = 2; coin 1 = 2; coin 9 = 2; coin 1 = 3");
        Edge.holds("1 less by far", "prices 1 99 1 = 1; coin 98 = 98; coin 1 = 98; coin 1 = 99; coin 97 = 196; coin 1 = 196; coin 1 = 197");
    }

    private static void kindness() {
        Edge.holds("9 KINDNESS (0, 1; 1 at first)", "set 0 0 = 1; set 0 0 = 0; set 0 1 = 0; set 0 1 = 1");
        Edge.holds("9 BAD: kindness", "set 0 0 = 1; set 1 50 = 99" + Edge.each("set 0 #", "2 -1 50 99 MIN MAX", "BAD") + "set 0 1 = 0");
        Edge.holds("9 BAD: what", "set 0 0 = 1; set 1 50 = 99" + Edge.each("set # 1", "2 -1 MIN MAX", "BAD") + "set 2 -1 = BAD; set -1 100 = BAD; "
            + "set 0 1 = 0; set 1 1 = 50");
    }

    private static void groove() {
        Edge.holds("9 THE GROOVE (1 .. 99; 99 at first)", "set 1 1 = 99; set 1 99 = 1; set 1 2 = 99; set 1 98 = 2; set 1 98 = 98");
        Edge.holds("9 BAD: the groove", "set 1 50 = 99; set 0 0 = 1" + Edge.each("set 1 #", "0 -1 100 MIN MAX", "BAD") + "set 1 1 = 50");
    }

    private static void keysWithoutCredit() {
        Edge.holds("10 NOT: without a CREDIT", "key 0 = NOT; key 19 = NOT; coin 9 = 0; key 0 = NOT; coin 1 = 1; key 0 = 0; key 1 = NOT; key 0 = NOT; song 0 0 = 1; "
            + "song 1 0 = 0; count 1 = 1; count 3 = 0");
        Edge.holds("10 BAD, then NOT", Edge.each("key #", "-1 20 MIN MAX", "BAD"));
        Edge.holds("10 without a CREDIT and in vain", "coin 10; key 3 = 0; stick 4 1; stick 5 2; set 0 0 = 1; key 3 = NOT; key 4 = NOT; key 5 = NOT; count 3 = 0; "
            + "set 0 1; key 3 = NOT; key 4 = NOT; key 5 = NOT; count 3 = 0; count 2 = 0");
    }

    private static void keyEdges() {
        Edge.holds("10 the first song and the last", "coin 25 = 3; key 0 = 2; key 19 = 1; song 0 0 = 1; song 19 0 = 1; count 1 = 2; count 3 = 0; count 2 = 1");
        Edge.holds("10 BAD: a song", "coin 25 = 3; set 0 0" + Edge.each("key #", "-1 20 MIN MAX", "BAD") + "count 2 = 3; count 3 = 0");
        StringBuilder all = new StringBuilder("coin 99 x 2; count 2 = 23; ");
        for (int song = 0; song < 20; song++) {
            all.append("key ").append(song).append(" = ").append(22 - song).append("; count 1 = ").append(song + 1).append("; ");
        }
        Edge.holds("10 every song", all.toString());
        Edge.holds("10 the place may be empty, the carriage there", "coin 10 = 1; count 8 = 10; key 0 = 0; song 0 0 = 1");
    }

    private static void keysInVain() {
        String three = "coin 25 = 3; coin 10 = 4; key 7 = 3; stick 8 1; stick 9 2; ";
        Edge.holds("10 in vain, KINDNESS 1: NOT", three + "key 7 = NOT; key 8 = NOT; key 9 = NOT; count 2 = 3; count 3 = 0");
        Edge.holds("10 in vain, KINDNESS 0: LOST", three + "set 0 0; key 7 = 2; count 3 = 1; key 8 = 1; count 3 = 2; key 9 = 0; count 3 = 3; count 2 = 0; "
            + "key 7 = NOT; count 3 = 3; song 7 0 = 1; song 8 0 = 1; song 9 0 = 0; song 9 1 = 2; count 1 = 2");
        Edge.holds("10 FREE again, and out: not in vain", three + "stick 9 0; key 9 = 2; song 9 0 = 1; stick 8 0; key 8 = NOT; stick 8 2; stick 8 0; key 8 = 1");
        Edge.holds("10 asked again when its pin has gone out", "record 5 5; change 0 0; coin 25; key 0 = 2; key 0 = NOT; ticks 1; song 0 0 = 0; key 0 = 1; "
            + "song 0 0 = 1; key 0 = NOT; count 5 = 0");
    }
}
