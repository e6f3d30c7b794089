/** The edges of records, places, songs and pins: part 1 of the document, promises 1 to 6. */
public final class RecordsEdgeTest {
    private static final String NO_SONG = "-1 20 MIN MAX";

    public static void main(String[] args) {
        newObject();
        recordsAsTheyCome();
        times();
        places();
        recordsThatAreThere();
        whatWasThere();
        outOnTheWayUp();
        outOnTheWayDown();
        inAnotherPlace();
        toldEdges();
        songEdges();
        stickEdges();
        stuckAlways();
        Due.end();
    }

    private static void newObject() {
        Edge.holds("1 an empty rack", "count 8 = 10; count 0 = 0" + Edge.each("song # 3", "0 1 2 3 17 18 19", "NONE"));
        Edge.holds("1 all numbers at first", Edge.each("count #", "0 1 2 3 4 5 6 7", "0") + "carriage 0 = 0; carriage 1 = 1; "
            + "carriage 2 = 0; carriage 3 = 0; set 0 1 = 1; set 1 99 = 99; done = 0; next 0 = NONE; better 0 = NONE; "
            + "restore = NONE; drop 0 = NULL; drop 1 = NULL; drop 2 = NULL; drop 3 = NULL; evening = -20");
    }

    private static void recordsAsTheyCome() {
        Edge.holds("1 RECORDS 0 .. 15, as they come", "told 0 0 = BAD; change 0 0 = BAD; record 1 2 = 0; told 0 0 = 1; told 1 0 = BAD; "
            + "record 3 4 = 1; record 5 5 x 13; count 0 = 15; told 15 0 = BAD; change 0 15 = BAD; record 59 60 = 15; "
            + "count 0 = 16; told 15 0 = 59; told 15 1 = 60; told 0 1 = 2; told 1 1 = 4; change 0 15 = NONE");
        Edge.holds("2 FULL: 16", "record 5 5 x 15; record 1 60 = 15; record 1 1 = FULL; record 60 60 = FULL; record 2 3 = FULL; "
            + "count 0 = 16; told 16 0 = BAD; change 0 16 = BAD; told 15 0 = 1; told 0 0 = 5");
        Edge.holds("2 BAD, then FULL", "record 5 5 x 16" + Edge.each("record # 1", "0 61 MIN MAX", "BAD")
            + Edge.each("record 1 #", "0 61 MIN MAX", "BAD") + "record 0 61 = BAD");
    }

    private static void times() {
        Edge.holds("1 a TIME (1 .. 60): the least and the greatest", "record 1 60 = 0; record 60 1 = 1; record 1 1 = 2; record 60 60 = 3; "
            + "told 0 0 = 1; told 0 1 = 60; told 1 0 = 60; told 1 1 = 1; told 2 0 = 1; told 2 1 = 1; told 3 0 = 60; told 3 1 = 60");
        Edge.holds("2 BAD: a time", "record 7 8 = 0" + Edge.each("record # 5", "0 -1 61 MIN MAX", "BAD")
            + Edge.each("record 5 #", "0 -1 61 MIN MAX", "BAD") + "record 0 0 = BAD; record 61 61 = BAD; record MAX MIN = BAD; record 9 9 = 1");
    }

    private static void places() {
        Edge.holds("1 PLACES 0 .. 9", "record 5 5 x 3; change 0 0 = NONE; change 9 1 = NONE; told 0 4 = 0; told 1 4 = 9; song 0 3 = 0; "
            + "song 1 3 = 0; song 2 3 = NONE; song 17 3 = NONE; song 18 3 = 1; song 19 3 = 1; count 8 = 8"
            + Edge.each("change # 2", "-1 10 MIN MAX", "BAD") + Edge.each("change # -1", "-1 10 MIN MAX", "BAD"));
        Edge.holds("3 all places full, all empty", Edge.rack(5, 5) + "count 8 = 0; record 1 1 = 10; change 0 10 = 0; change 9 0 = 9; count 8 = 0; "
            + "change 0 -1 = 10; change 1 -1 = 1; change 2 -1 = 2; change 3 -1 = 3; change 4 -1 = 4; change 5 -1 = 5; change 6 -1 = 6; "
            + "change 7 -1 = 7; change 8 -1 = 8; count 8 = 9; change 9 -1 = 0; count 8 = 10; change 9 -1 = NONE; count 8 = 10");
    }

    private static void recordsThatAreThere() {
        Edge.holds("3 BAD: no record yet", Edge.each("change 0 #", "0 1 15 16 -2 MIN MAX", "BAD") + "change 0 -1 = NONE");
        Edge.holds("3 BAD: a record that is not there", "record 5 5 x 2; change 4 1 = NONE" + Edge.each("change 4 #", "2 15 16 -2 -4 MIN MAX", "BAD")
            + "change 4 0 = 1");
        Edge.holds("3 the last of 16", "record 5 5 x 16; change 4 15 = NONE; change 4 16 = BAD; song 8 3 = 15");
        Edge.holds("3 both are BAD", "change -1 0 = BAD; change 10 -2 = BAD; change MIN MAX = BAD; change MAX MIN = BAD");
    }

    private static void whatWasThere() {
        Edge.holds("3 what was there goes out: that (NONE: nothing)", "record 5 5 x 2; change 3 -1 = NONE; change 3 0 = NONE; change 3 1 = 0; "
            + "told 0 4 = NONE; told 1 4 = 3; change 3 -1 = 1; told 1 4 = NONE; change 3 -1 = NONE; song 6 3 = NONE; count 8 = 10");
        Edge.holds("3 into the place where it is", "record 5 5; change 3 0; change 3 0 = 0; told 0 4 = 3; count 8 = 9");
        Edge.sameBehind("3 into the place where it is, all stays", "record 5 5; change 3 0; change 3 0", "record 5 5; change 3 0");
        Edge.sameBehind("3 nothing out of an empty place, all stays", "record 5 5; change 3 -1", "record 5 5");
    }

    /** Tick 1 grips, tick 5 plays for 3, tick 8 puts back, tick 12 rests. */
    private static void outOnTheWayUp() {
        String asked = "record 3 2; record 1 1; change 0 0; coin 25; key 0; ";
        Edge.holds("3 not OUT while it RESTS, asked for", asked + "change 0 1 = 0; change 0 0 = 1; change 0 -1 = 0; change 0 0 = NONE");
        for (int tick : new int[] {1, 4, 5, 7, 8, 11}) {
            Edge.holds("3 NOT: what is there is OUT", asked + "ticks " + tick + "; change 0 -1 = NOT; change 0 0 = NOT; change 0 1 = NOT; "
                + "change 1 0 = NOT; change 1 1 = NONE; change 0 1 = NOT; change 1 -1 = 1");
            Edge.holds("3 BAD, then NOT", asked + "ticks " + tick + Edge.each("change 0 #", "2 -2 MIN MAX", "BAD") + "change -1 0 = BAD; change 10 0 = BAD");
        }
        Edge.holds("3 no longer OUT", asked + "ticks 12; carriage 2 = 0; change 0 1 = 0; change 1 0 = NONE");
        Edge.holds("3 no longer OUT when it MOVES", asked + "key 1; ticks 12; carriage 0 = 0; carriage 2 = 1; change 0 -1 = 0");
    }

    /** Tick 28 turns at place 9, tick 30 grips, tick 34 plays for 2, tick 36 puts back, tick 40 goes on. */
    private static void outOnTheWayDown() {
        String asked = "record 3 2; record 1 1; change 9 0; coin 25; key 19; ";
        Edge.holds("3 not OUT while it TURNS", asked + "ticks 29; carriage 0 = 9; carriage 2 = 2; carriage 3 = 1; change 9 1 = 0; change 9 0 = 1");
        Edge.holds("3 not OUT while it MOVES to it", asked + "ticks 27; carriage 2 = 1; change 9 1 = 0; change 8 0 = NONE");
        for (int tick : new int[] {30, 33, 34, 35, 36, 39}) {
            Edge.holds("3 NOT: OUT on its way down", asked + "ticks " + tick + "; change 9 -1 = NOT; change 9 0 = NOT; change 9 1 = NOT; change 8 0 = NOT; "
                + "change 8 1 = NONE");
        }
        Edge.holds("3 back again", asked + "ticks 40; carriage 2 = 0; change 9 1 = 0");
    }

    private static void inAnotherPlace() {
        Edge.holds("3 NOT: the RECORD is in another PLACE", "record 5 5 x 2; change 0 0 = NONE; change 9 0 = NOT; change 1 0 = NOT; change 9 1 = NONE; "
            + "change 0 1 = NOT; change 9 0 = NOT; change 0 -1 = 0; change 9 0 = 1; told 0 4 = 9; told 1 4 = NONE");
        Edge.holds("3 BAD, then NOT: in another place", "record 5 5; change 0 0; change 10 0 = BAD; change -1 0 = BAD; change MAX 0 = BAD");
    }

    private static void toldEdges() {
        String two = "record 5 60; record 8 9; change 9 1; ";
        Edge.holds("4 BAD: a record", two + Edge.each("told # 0", "-1 2 15 16 MIN MAX", "BAD") + Edge.each("told # 4", "-1 -4 2 16 MIN MAX", "BAD"));
        Edge.holds("4 BAD: what", two + Edge.each("told 1 #", "-1 5 MIN MAX", "BAD") + "told -1 -1 = BAD; told 2 5 = BAD");
        Edge.holds("4 of a record", two + "told 0 0 = 5; told 0 1 = 60; told 0 2 = 0; told 0 3 = 0; told 0 4 = NONE; "
            + "told 1 0 = 8; told 1 1 = 9; told 1 2 = 0; told 1 3 = 0; told 1 4 = 9; change 0 0; told 0 4 = 0");
        Edge.holds("4 the wear of its sides", two + "change 0 0; coin 25; key 0; key 19; ticks 2000; told 0 2 = 1; told 0 3 = 0; "
            + "told 1 2 = 0; told 1 3 = 1");
        Edge.holds("4 the last of 16", "record 1 2 x 15; record 3 4; told 15 0 = 3; told 15 1 = 4; told 15 2 = 0; told 15 3 = 0; told 15 4 = NONE; "
            + "told 15 5 = BAD; told 16 0 = BAD");
    }

    private static void songEdges() {
        String two = "record 5 5 x 2; change 0 1; change 9 0; coin 25; key 0; key 19; ";
        Edge.holds("5 BAD: a song", two + Edge.each("song # 0", NO_SONG, "BAD") + Edge.each("song # 3", NO_SONG, "BAD"));
        Edge.holds("5 BAD: what", two + Edge.each("song 0 #", "-1 4 MIN MAX", "BAD") + Edge.each("song 19 #", "-1 4 MIN MAX", "BAD")
            + "song -1 -1 = BAD; song 20 4 = BAD");
        Edge.holds("5 the first and the last", two + "song 0 0 = 1; song 1 0 = 0; song 18 0 = 0; song 19 0 = 1; song 0 1 = 0; song 19 1 = 0; "
            + "song 0 2 = 0; song 19 2 = 0; song 0 3 = 1; song 1 3 = 1; song 18 3 = 0; song 19 3 = 0; song 2 3 = NONE; song 17 3 = NONE");
        Edge.holds("5 the METER is the song's, the WEAR the record's", two + "ticks 2000; song 0 2 = 1; song 19 2 = 1; song 1 2 = 0; song 18 2 = 0; "
            + "change 0 -1; change 9 1; song 19 2 = 1; told 1 2 = 1; told 1 3 = 0; song 0 2 = 1; song 0 3 = NONE");
    }

    private static void stickEdges() {
        Edge.holds("6 BAD: a song", "stick 0 1; stick 19 2" + Edge.each("stick # 0", NO_SONG, "BAD") + Edge.each("stick # 1", NO_SONG, "BAD"));
        Edge.holds("6 BAD: how", "stick 0 1; stick 19 2" + Edge.each("stick 0 #", "-1 3 MIN MAX", "BAD") + Edge.each("stick 19 #", "-1 3 MIN MAX", "BAD")
            + "stick -1 3 = BAD; stick 20 -1 = BAD");
        for (int song : new int[] {0, 1, 10, 18, 19}) {
            String run = "stick # 0 = 0; song # 0 = 0; stick # 1 = 0; song # 0 = 1; song # 1 = 1; stick # 1 = 1; song # 0 = 1; stick # 0 = 1; "
                + "song # 0 = 1; song # 1 = 0; stick # 0 = 0; song # 0 = 1; stick # 2 = 0; song # 0 = 0; song # 1 = 2; stick # 2 = 2; "
                + "stick # 0 = 2; song # 0 = 0; song # 1 = 0; stick # 2 = 0; stick # 1 = 2; song # 0 = 1; count 1 = 1; stick # 2 = 1; "
                + "song # 0 = 0; count 1 = 0";
            Edge.holds("6 how it was; one that becomes FREE stays in, or out", run.replace("#", "" + song));
        }
        Edge.holds("6 asked for, then stuck in, then free: in", "coin 10; key 7 = 0; stick 7 1 = 0; stick 7 0 = 1; song 7 0 = 1; count 1 = 1");
        Edge.holds("6 asked for, then stuck out, then free: out", "coin 10; key 7 = 0; stick 7 2 = 0; stick 7 0 = 2; song 7 0 = 0; count 1 = 0; count 2 = 0");
        Edge.holds("13 all pins in", "count 1 = 0; stick 0 1; count 1 = 1" + Edge.each("stick #  1", "1 2 3 4 5 6 7 8 9 10 11 12 13 14 15 16 17 18", "0")
            + "count 1 = 19; stick 19 1 = 0; count 1 = 20; stick 19 1 = 1; count 1 = 20");
    }

    private static void stuckAlways() {
        Edge.holds("1 STUCK IN (in always)", "record 1 1; change 0 0; stick 0 1; ticks 1; carriage 2 = 3; song 0 0 = 1; count 1 = 1; ticks 2000; song 0 0 = 1; "
            + "song 0 1 = 1; coin 10; key 0 = NOT; song 0 0 = 1");
        Edge.holds("1 FREE: goes out when looked at", "record 1 1; change 0 0; stick 0 1; stick 0 0; ticks 1; carriage 2 = 3; song 0 0 = 0; count 1 = 0");
        Edge.holds("1 STUCK OUT (out always)", "record 1 1; change 0 0; stick 0 2; coin 10; key 0 = NOT; song 0 0 = 0; set 0 0; key 0 = 0; song 0 0 = 0; "
            + "ticks 100; carriage 2 = 0; count 5 = 0");
    }
}
