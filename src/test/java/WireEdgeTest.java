/** The edges of wires: part 3 of the document, promises 18 and 19. */
public final class WireEdgeTest {
    public static void main(String[] args) {
        bad();
        badAheadOfAll();
        theMachinesOrder();
        fromEdges();
        belowOne();
        gapEdges();
        justOneGap();
        groupEdges();
        lanes();
        onlyItsOwnItems();
        allStaysAsItIs();
        Due.end();
    }

    /** The same refusal of both calls. */
    private static void both(String sentence, String before, String args, String numbers, String due) {
        Edge.holds("18 " + sentence, before + Edge.each("heard " + args, numbers, due));
        Edge.holds("19 " + sentence, before + Edge.each("mayBe " + args, numbers, due));
    }

    /** A sheet 0 of ints with these times. */
    private static String row(int... times) {
        StringBuilder run = new StringBuilder("sheet 0 2 ").append(times.length).append("; ");
        for (int i = 0; i < times.length; i++) {
            run.append("item 0 2 ").append(i).append(' ').append(times[i]).append("; ");
        }
        return run.toString();
    }

    /** Times of so many pulses ahead of a gap of 50 and more, and behind it. */
    private static int[] times(int ahead, int behind) {
        int[] times = new int[ahead + behind - 1];
        for (int i = 0; i < times.length; i++) {
            times[i] = i == ahead - 1 ? 50 : 49;
        }
        return times;
    }

    private static void bad() {
        String some = row(5, 60, 5);
        both("BAD: a sheet", some, "# 2 0 3 50", "-1 4 MIN MAX", "BAD");
        both("BAD: a lane", some, "0 # 0 3 50", "-1 3 MIN MAX", "BAD");
        both("BAD: n times (1 .. 20)", some, "0 2 0 # 50", "0 -1 21 MIN MAX", "BAD");
        both("BAD: gap G (1 .. 999)", some, "0 2 0 3 #", "0 -1 1000 MIN MAX", "BAD");
        Edge.holds("18 the least and the greatest n", some + "heard 0 2 1 1 50 = 0; sheet 3 0 20; item 3 0 0 50" + ones(3, 1, 20) + "heard 3 0 0 20 50 = NONE; heard 3 0 0 2 50 = 1");
        Edge.holds("18 the least and the greatest G", row(1, 998, 999, 1000) + "heard 0 2 0 1 1 = 0; heard 0 2 1 1 999 = NONE; heard 0 2 2 1 999 = 0; heard 0 2 3 1 999 = 0; "
            + "heard 0 2 0 2 1 = NONE; mayBe 0 2 1 2 999 = 28; heard 0 2 1 2 999 = 2");
    }

    private static String ones(int sheet, int from, int to) {
        StringBuilder run = new StringBuilder("; ");
        for (int i = from; i < to; i++) {
            run.append("item ").append(sheet).append(" 0 ").append(i).append(" 1; ");
        }
        return run.toString();
    }

    private static void badAheadOfAll() {
        String some = row(5, 60, 0) + "sheet 1 0 0; ";
        for (String sheet : new String[] {"3 2", "0 0", "1 0"}) {
            for (String from : new String[] {"0", "-1", "24"}) {
                both("BAD, then NULL, CAST, INDEX: n", some, sheet + " " + from + " # 50", "0 21 MIN MAX", "BAD");
                both("BAD, then NULL, CAST, INDEX: G", some, sheet + " " + from + " 3 #", "0 1000 MIN MAX", "BAD");
            }
        }
        both("BAD, then NULL: a lane", some, "3 # 0 3 50", "-1 3 MIN MAX", "BAD");
        both("BAD, then INDEX: a lane", some, "1 # 0 3 50", "-1 3 MIN MAX", "BAD");
        both("BAD, then NOT: n", some, "0 2 0 # 50", "0 21", "BAD");
        both("BAD, then NOT: G", some, "0 2 0 3 #", "0 1000", "BAD");
        both("several are BAD", some, "# 3 -1 0 0", "-1 4", "BAD");
    }

    private static void theMachinesOrder() {
        String some = row(5, 60, 0) + "sheet 1 0 3; ";
        both("NULL", some, "# 2 0 3 50", "2 3", "NULL");
        both("NULL in each lane", some, "2 # 0 3 50", "0 1 2", "NULL");
        both("NULL, then INDEX", some, "2 2 # 3 50", "-1 1 24 MIN MAX", "NULL");
        both("NULL, when it was dropped", some + "drop 0; ", "0 # 0 3 50", "0 1 2", "NULL");
        both("CAST: ints", some, "0 # 0 3 50", "0 1", "CAST");
        both("CAST: bytes", some, "1 # 0 3 50", "1 2", "CAST");
        both("CAST: shorts", some + "sheet 3 1 3; ", "3 # 0 3 50", "0 2", "CAST");
        both("CAST, then INDEX", some, "0 0 # 3 50", "-1 1 24 MIN MAX", "CAST");
        both("CAST, then NOT", some, "0 0 0 # 50", "1 3", "CAST");
        both("CAST of a row of nothing", some + "sheet 3 1 0; ", "3 # 0 1 50", "0 2", "CAST");
        both("INDEX, then NOT: the 0 is ahead of the end", some, "0 2 # 3 50", "1 2 3", "INDEX");
        both("INDEX, then NOT: n beyond the end", some, "0 2 0 # 50", "4 20", "INDEX");
        both("NOT, then NONE: two gaps and a 0", row(60, 60, 0), "0 2 0 # 50", "3", "NOT");
        both("NOT, then NONE: no gap and a 0", row(5, 5, 0), "0 2 0 # 50", "3", "NOT");
    }

    private static void fromEdges() {
        String some = row(5, 60, 5);
        both("INDEX: from", some, "0 2 # 1 50", "-1 3 4 23 24 MIN MAX", "INDEX");
        both("INDEX: from and n", some, "0 2 # 2 50", "-1 2 3 MIN MAX 2147483646", "INDEX");
        both("INDEX: from and n wrap around", some, "0 2 # 20 50", "2147483628 2147483629 2147483640 MAX", "INDEX");
        both("INDEX: all and one more", some, "0 2 0 # 50", "4 5 20", "INDEX");
        Edge.holds("18 up to the last item", some + "heard 0 2 0 3 50 = 3; heard 0 2 1 2 50 = 1; heard 0 2 0 2 50 = 2; heard 0 2 1 1 50 = 0; heard 0 2 2 1 5 = 0");
        both("INDEX: a row of nothing", "sheet 2 1 0; ", "2 1 # 1 50", "0 -1 1", "INDEX");
        StringBuilder full = new StringBuilder("sheet 2 0 24; item 2 0 22 100; item 2 0 23 2; ");
        for (int i = 0; i < 22; i++) {
            full.append("item 2 0 ").append(i).append(" 2; ");
        }
        Edge.holds("18 a full sheet", full + "heard 2 0 22 2 100 = 1; heard 2 0 22 1 100 = 0; heard 2 0 13 11 100 = 19; heard 2 0 4 20 100 = NONE; heard 2 0 5 20 100 = INDEX; "
            + "heard 2 0 23 1 2 = 0; heard 2 0 23 2 2 = INDEX; heard 2 0 24 1 2 = INDEX; mayBe 2 0 13 11 100 = 524288; mayBe 2 0 14 11 100 = INDEX");
    }

    private static void belowOne() {
        both("NOT: one is below 1: 0", row(0, 60, 5), "0 2 0 # 50", "1 2 3", "NOT");
        both("NOT: the last is below 1", row(5, 60, 0), "0 2 0 # 50", "3", "NOT");
        both("NOT: below 0", row(5, -1, 60), "0 2 0 # 50", "2 3", "NOT");
        both("NOT: the least int", row(60, Integer.MIN_VALUE), "0 2 0 # 50", "2", "NOT");
        both("NOT: a new row", "sheet 0 1 24; ", "0 1 # 1 1", "0 1 23", "NOT");
        Edge.holds("18 times are 1 or more", row(1, 60, 1) + "heard 0 2 0 3 50 = 3; heard 0 2 0 1 1 = 0; mayBe 0 2 0 3 50 = 40");
    }

    private static void gapEdges() {
        Edge.holds("3 a time of G or more is a gap", row(49, 50, 51, 1) + "heard 0 2 0 1 50 = NONE; heard 0 2 1 1 50 = 0; heard 0 2 2 1 50 = 0; heard 0 2 0 2 50 = 2; "
            + "heard 0 2 0 3 51 = 4; heard 0 2 0 4 51 = 5; heard 0 2 0 2 51 = NONE; heard 0 2 1 3 50 = NONE; mayBe 0 2 0 1 50 = NONE; mayBe 0 2 1 1 50 = 7");
        Edge.holds("3 the greatest int is a gap", row(1, Integer.MAX_VALUE, 998) + "heard 0 2 0 3 999 = 3; mayBe 0 2 0 3 999 = 40");
    }

    private static void justOneGap() {
        both("NONE: no gap", row(5, 5, 5), "0 2 0 # 50", "1 2 3", "NONE");
        both("NONE: two gaps", row(60, 60, 5), "0 2 0 # 50", "2 3", "NONE");
        both("NONE: two gaps, one at each end", row(60, 5, 60), "0 2 0 # 50", "3", "NONE");
        both("NONE: three gaps", row(60, 60, 60), "0 2 0 # 50", "3", "NONE");
        Edge.holds("3 the gap first, or last", row(60, 5, 60) + "heard 0 2 0 1 50 = 0; heard 0 2 0 2 50 = 1; heard 0 2 1 2 50 = 2; mayBe 0 2 0 2 50 = 10; mayBe 0 2 1 2 50 = 28");
    }

    /** Every number of pulses that the wire could have had: 1 to 13 ahead, 1 to 4 behind. */
    private static void groupEdges() {
        for (int ahead = 1; ahead <= 13; ahead++) {
            for (int behind = 1; behind <= 4; behind++) {
                int bits = 0;
                for (int song = 0; song < 20; song++) {
                    int lostAhead = song / 2 + 1 - ahead;
                    int lostBehind = song % 2 + 1 - behind;
                    boolean oneAtMost = lostAhead >= 0 && lostBehind >= 0 && lostAhead + lostBehind <= 1;
                    bits |= oneAtMost ? 1 << song : 0;
                }
                String song = ahead <= 10 && behind <= 2 ? "" + (2 * (ahead - 1) + behind - 1) : "NONE";
                String args = " 0 2 0 " + (ahead + behind - 1) + " 50 = ";
                Edge.holds("3 1 to 10 pulses ahead, 1 or 2 behind", row(times(ahead, behind)) + "heard" + args + song + "; mayBe" + args + (bits == 0 ? "NONE" : "" + bits));
            }
        }
        Edge.holds("19 at the ends", row(times(10, 1)) + "mayBe 0 2 0 10 50 = 786432; " + row(times(10, 2)) + "mayBe 0 2 0 11 50 = 524288; " + row(times(9, 2))
            + "mayBe 0 2 0 10 50 = 655360; " + row(times(11, 1)) + "mayBe 0 2 0 11 50 = NONE; heard 0 2 0 11 50 = NONE; " + row(times(1, 3)) + "mayBe 0 2 0 3 50 = NONE; "
            + row(times(1, 1)) + "mayBe 0 2 0 1 50 = 7; " + row(times(1, 2)) + "mayBe 0 2 0 2 50 = 10");
        Edge.holds("18 as long as can be", row(times(19, 2)) + "heard 0 2 0 20 50 = NONE; mayBe 0 2 0 20 50 = NONE; " + row(times(1, 20)) + "heard 0 2 0 20 50 = NONE; mayBe 0 2 0 20 50 = NONE");
    }

    private static void lanes() {
        Edge.holds("18 bytes: the greatest time is 127", "sheet 0 0 1; item 0 0 0 127; heard 0 0 0 1 127 = 0; heard 0 0 0 1 128 = NONE; item 0 0 0 128; heard 0 0 0 1 127 = NOT");
        Edge.holds("18 shorts: beyond all gaps", "sheet 0 1 1; item 0 1 0 32767; heard 0 1 0 1 999 = 0; item 0 1 0 32768; heard 0 1 0 1 999 = NOT");
        Edge.holds("18 ints: beyond all gaps", "sheet 0 2 1; item 0 2 0 32768; heard 0 2 0 1 999 = 0; item 0 2 0 MAX; heard 0 2 0 1 999 = 0; item 0 2 0 MIN; heard 0 2 0 1 1 = NOT");
    }

    private static void onlyItsOwnItems() {
        Edge.holds("18 what is ahead of from, or behind n, is not looked at", row(0, 60, 5, 60, -1) + "heard 0 2 1 2 50 = 1; heard 0 2 2 2 50 = 2; heard 0 2 1 3 50 = NONE; "
            + "heard 0 2 0 2 50 = NOT; heard 0 2 2 3 50 = NOT; mayBe 0 2 1 1 50 = 7; mayBe 0 2 2 2 50 = 28");
        Edge.holds("18 each sheet by itself", "sheet 0 0 1; sheet 1 1 1; sheet 2 2 2; sheet 3 0 3; item 0 0 0 60; item 1 1 0 5; item 2 2 0 60; item 2 2 1 5; item 3 0 0 5; "
            + "item 3 0 1 5; item 3 0 2 60; heard 0 0 0 1 50 = 0; heard 1 1 0 1 50 = NONE; heard 2 2 0 2 50 = 1; heard 3 0 0 3 50 = 4");
    }

    private static void allStaysAsItIs() {
        String some = row(5, 60, 5) + "tape '+5'; coin 10; key 3; ";
        Edge.sameBehind("3 all stays as it is", some + "heard 0 2 0 3 50; mayBe 0 2 0 3 50; heard 0 2 0 1 50; mayBe 0 2 0 1 50", some);
    }
}
