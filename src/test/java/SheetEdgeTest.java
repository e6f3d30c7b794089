/** The edges of sheets: promises 24 to 26. */
public final class SheetEdgeTest {
    private static final String NO_SHEET = "-1 4 MIN MAX";
    private static final String NO_LANE = "-1 3 MIN MAX";

    public static void main(String[] args) {
        sizes();
        sheetRefused();
        newRows();
        drops();
        itemRefused();
        itemEdges();
        lowestBits();
        sheetsAreApart();
        Due.end();
    }

    private static void sizes() {
        for (int lane = 0; lane < 3; lane++) {
            Edge.holds("24 rows of 0 to 24 items", ("sheet 0 # 0 = 0; drop 0 = 0; sheet 0 # 1 = 1; drop 0 = 1; sheet 3 # 24 = 24; sheet 3 # 23 = 23; drop 3 = 23; "
                + "sheet 3 # 24 = 24; drop 3 = 24").replace("#", "" + lane));
            Edge.holds("24 BAD: n above 24; SIZE: n below 0", ("sheet 1 # 7 = 7; item 1 # 6 99; sheet 1 # 25 = BAD; sheet 1 # MAX = BAD; sheet 1 # -1 = SIZE; sheet 1 # MIN = SIZE; "
                + "sheet 2 # 25 = BAD; sheet 2 # -1 = SIZE; drop 2 = NULL; heard 1 # 6 1 99 = 0; drop 1 = 7").replace("#", "" + lane));
        }
    }

    private static void sheetRefused() {
        String some = "sheet 0 1 5; item 0 1 4 60; ";
        Edge.holds("24 BAD: a sheet", some + Edge.each("sheet # 1 5", NO_SHEET, "BAD") + "sheet 3 1 5 = 5");
        Edge.holds("24 BAD: a lane", some + Edge.each("sheet 0 # 5", NO_LANE, "BAD") + "sheet 0 0 5 = 5; sheet 0 2 5 = 5");
        Edge.holds("24 BAD, then SIZE", some + Edge.each("sheet # 1 -1", NO_SHEET, "BAD") + Edge.each("sheet 0 # -1", NO_LANE, "BAD") + Edge.each("sheet 4 # MIN", NO_LANE, "BAD"));
        Edge.holds("24 several are BAD", some + "sheet -1 -1 25 = BAD; sheet 4 0 25 = BAD; sheet 0 3 25 = BAD; sheet MIN MAX MAX = BAD");
    }

    private static void newRows() {
        Edge.holds("24 a new row: its items are 0", "sheet 0 2 2; item 0 2 0 60; item 0 2 1 60; sheet 0 2 2 = 2; heard 0 2 0 1 50 = NOT; heard 0 2 1 1 50 = NOT");
        Edge.holds("24 a new row of another lane", "sheet 0 2 2; item 0 2 0 60; sheet 0 0 3 = 3; item 0 2 0 1 = CAST; heard 0 0 0 1 50 = NOT; item 0 0 2 1 = 1; drop 0 = 3");
        Edge.holds("24 a shorter row, then a longer", "sheet 0 1 24; item 0 1 23 60; sheet 0 1 0 = 0; item 0 1 0 1 = INDEX; sheet 0 1 24 = 24; heard 0 1 23 1 50 = NOT; heard 0 1 0 1 50 = NOT");
    }

    private static void drops() {
        Edge.holds("25 BAD", "sheet 0 0 1; sheet 3 2 24" + Edge.each("drop #", NO_SHEET, "BAD") + "drop 0 = 1; drop 3 = 24");
        Edge.holds("25 NULL", "drop 0 = NULL; drop 3 = NULL; sheet 0 0 0 = 0; drop 0 = 0; drop 0 = NULL; drop 1 = NULL");
        Edge.holds("25 it holds nothing", "sheet 1 2 2; item 1 2 0 60; drop 1 = 2; item 1 2 0 1 = NULL; heard 1 2 0 1 50 = NULL; sheet 1 2 2 = 2; heard 1 2 0 1 50 = NOT");
        Edge.sameBehind("25 as if it had held nothing ever", "sheet 1 2 2; item 1 2 0 60; drop 1", "");
    }

    private static void itemRefused() {
        String some = "sheet 1 1 3; item 1 1 0 60; ";
        Edge.holds("26 BAD: a sheet", some + Edge.each("item # 1 0 5", NO_SHEET, "BAD"));
        Edge.holds("26 BAD: a lane", some + Edge.each("item 1 # 0 5", NO_LANE, "BAD"));
        Edge.holds("26 BAD, then NULL", some + Edge.each("item 0 # 0 5", NO_LANE, "BAD") + "item 4 3 0 5 = BAD");
        Edge.holds("26 BAD, then INDEX", some + Edge.each("item 1 # -1 5", NO_LANE, "BAD") + Edge.each("item # 1 3 5", NO_SHEET, "BAD"));
        Edge.holds("26 NULL", some + Edge.each("item # 1 0 5", "0 2 3", "NULL") + Edge.each("item 0 # 0 5", "0 1 2", "NULL"));
        Edge.holds("26 NULL, then INDEX", some + Edge.each("item 0 1 # 5", "-1 24 MIN MAX", "NULL"));
        Edge.holds("26 CAST", some + Edge.each("item 1 # 0 5", "0 2", "CAST") + "sheet 2 0 1; item 2 1 0 5 = CAST; item 2 2 0 5 = CAST; sheet 3 2 1; item 3 0 0 5 = CAST; item 3 1 0 5 = CAST");
        Edge.holds("26 CAST, then INDEX", some + Edge.each("item 1 0 # 5", "-1 3 24 MIN MAX", "CAST") + Edge.each("item 1 2 # 5", "-1 3 24 MIN MAX", "CAST") + "sheet 2 0 0; item 2 1 0 5 = CAST");
        Edge.holds("26 INDEX", some + Edge.each("item 1 1 # 5", "-1 3 4 23 24 MIN MAX", "INDEX") + "sheet 2 0 0; item 2 0 0 5 = INDEX; item 2 0 -1 5 = INDEX; sheet 2 0 24; "
            + "item 2 0 24 5 = INDEX; item 2 0 23 5 = 1");
    }

    private static void itemEdges() {
        Edge.holds("26 the first item and the last", "sheet 0 2 24; item 0 2 0 60 = 1; item 0 2 23 61 = 1; heard 0 2 0 1 60 = 0; heard 0 2 0 1 61 = NONE; heard 0 2 23 1 61 = 0; "
            + "heard 0 2 1 1 1 = NOT; heard 0 2 22 1 1 = NOT; item 0 2 0 5 = 1; heard 0 2 0 1 6 = NONE; heard 0 2 0 1 5 = 0");
        Edge.holds("26 a row of one", "sheet 0 0 1; item 0 0 0 9 = 1; item 0 0 1 9 = INDEX; item 0 0 -1 9 = INDEX");
    }

    /** The value that an item has then, if it is 1 to 998. */
    private static String has(int lane, int value) {
        String heard = "heard 0 " + lane + " 0 1 ";
        return value < 1 ? heard + "1 = NOT; " : heard + value + " = 0; " + heard + (value + 1) + " = NONE; ";
    }

    private static void lowestBits() {
        int[][] bytes = {{1, 1}, {0, 0}, {-1, 0}, {127, 127}, {128, 0}, {255, 0}, {256, 0}, {257, 1}, {256 + 127, 127}, {-255, 1}, {-129, 127}, {-128, 0},
            {Integer.MAX_VALUE, 0}, {Integer.MIN_VALUE, 0}, {Integer.MIN_VALUE + 77, 77}, {32767, 0}, {65536 + 5, 5}};
        for (int[] pair : bytes) {
            Edge.holds("26 the lowest bits: bytes", "sheet 0 0 1; item 0 0 0 " + pair[0] + " = 1; " + has(0, pair[1]));
        }
        int[][] shorts = {{1, 1}, {0, 0}, {-1, 0}, {128, 128}, {255, 255}, {256, 256}, {32768, 0}, {65535, 0}, {65536, 0}, {65537, 1}, {-65535, 1}, {-32768, 0},
            {65536 + 998, 998}, {Integer.MAX_VALUE, 0}, {Integer.MIN_VALUE, 0}, {Integer.MIN_VALUE + 777, 777}};
        for (int[] pair : shorts) {
            Edge.holds("26 the lowest bits: shorts", "sheet 0 1 1; item 0 1 0 " + pair[0] + " = 1; " + has(1, pair[1]));
        }
        int[][] ints = {{1, 1}, {0, 0}, {-1, 0}, {128, 128}, {998, 998}, {Integer.MIN_VALUE, 0}, {Integer.MIN_VALUE + 77, 0}, {-65535, 0}};
        for (int[] pair : ints) {
            Edge.holds("26 all bits: ints", "sheet 0 2 1; item 0 2 0 " + pair[0] + " = 1; " + has(2, pair[1]));
        }
        Edge.holds("26 the greatest of each lane", "sheet 0 1 1; item 0 1 0 32767; heard 0 1 0 1 999 = 0; sheet 0 2 1; item 0 2 0 MAX; heard 0 2 0 1 999 = 0; item 0 2 0 65536; "
            + "heard 0 2 0 1 999 = 0; item 0 2 0 40000; heard 0 2 0 1 999 = 0");
    }

    private static void sheetsAreApart() {
        Edge.holds("4 sheets 0 .. 3", "sheet 0 0 1; sheet 1 1 2; sheet 2 2 3; sheet 3 0 4; item 0 0 0 11; item 1 1 0 12; item 2 2 0 13; item 3 0 0 14; heard 0 0 0 1 11 = 0; "
            + "heard 0 0 0 1 12 = NONE; heard 1 1 0 1 12 = 0; heard 1 1 0 1 13 = NONE; heard 2 2 0 1 13 = 0; heard 2 2 0 1 14 = NONE; heard 3 0 0 1 14 = 0; heard 3 0 0 1 15 = NONE; "
            + "drop 1 = 2; drop 1 = NULL; drop 0 = 1; drop 2 = 3; drop 3 = 4");
    }
}
