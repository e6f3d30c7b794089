/** The edges of the carriage, its ticks, wear and groove: part 2 of the document, promises 11 to 13. */
public final class CarriageEdgeTest {
    public static void main(String[] args) {
        tickBounds();
        theLastTick();
        theLastTickAtWork();
        whatIsAsked();
        restsWithoutPins();
        looksAtOnce();
        movesOrTurnsAtTheLowEnd();
        turnsAtTheHighEnd();
        restsAtTheNextPlace();
        misses();
        gripsToPutsBack();
        leastAndGreatestTime();
        theLastRecordPlays();
        grooveEdge();
        grooveIsAskedAsItBegins();
        wearAtMost();
        meterGoesRound();
        countsAreFull();
        severalStepsInOneCall();
        Due.end();
    }

    private static String at(int place, int up, int doing, int left) {
        return "; carriage 0 = " + place + "; carriage 1 = " + up + "; carriage 2 = " + doing + "; carriage 3 = " + left + "; ";
    }

    private static void tickBounds() {
        Edge.holds("11 n TICKS (1 .. 2000)", "ticks 1 = 1; ticks 2000 = 2001; ticks 1999 = 4000; count 7 = 4000");
        String busy = "record 5 5; change 0 0; coin 10; key 0; ticks 3 = 3";
        Edge.holds("11 BAD", busy + Edge.each("ticks #", "0 -1 2001 MIN MAX", "BAD") + "ticks 1 = 4" + at(0, 1, 3, 1));
    }

    private static void theLastTick() {
        Edge.holds("11 FULL: NOW would be above 1000000", "ticks 2000 x 499; ticks 1999 = 999999; ticks 2 = FULL; ticks 2000 = FULL; ticks 1 = 1000000; ticks 1 = FULL; "
            + "count 7 = 1000000");
        Edge.holds("11 2000 up to it, and one beyond", "ticks 2000 x 498; ticks 1999; ticks 1; ticks 2000 = 1000000; ticks 2000 = FULL");
        Edge.holds("11 one too many of 2000", "ticks 2000 x 499; ticks 1 = 998001; ticks 2000 = FULL; ticks 1999 = 1000000; ticks 1999 = FULL");
        Edge.holds("11 BAD, then FULL", "ticks 2000 x 500; count 7 = 1000000; ticks 0 = BAD; ticks -1 = BAD; ticks 2001 = BAD; ticks MIN = BAD; ticks MAX = BAD");
        Edge.holds("23 an earlier NOW has room again", "image; ticks 2000 x 500; ticks 1 = FULL; restore = 1; ticks 2000 = 2000");
    }

    private static void theLastTickAtWork() {
        Edge.holds("11 FULL, while it plays", "record 60 60; change 0 0; stick 0 1; ticks 2000 x 499; ticks 1999 = 999999; ticks 2 = FULL; ticks 1 = 1000000; ticks 1 = FULL");
        Edge.holds("16 what would be goes beyond", "record 5 5; change 0 0; ticks 2000 x 500; coin 10; key 0 = 0; when 0 = 5; next 0 = 0; done = 14; ticks 1 = FULL");
    }

    private static void whatIsAsked() {
        String busy = "record 5 5; change 0 0; coin 10; key 0; ticks 3 = 3; ";
        Edge.holds("12 BAD", busy + Edge.each("carriage #", "-1 4 MIN MAX", "BAD") + at(0, 1, 3, 2));
        Edge.holds("13 BAD", busy + Edge.each("count #", "-1 9 MIN MAX", "BAD") + "count 0 = 1; count 8 = 9");
    }

    private static void restsWithoutPins() {
        Edge.holds("2 it RESTS, no PIN is in: NOW alone is more", Edge.rack(5, 5) + "ticks 1 = 1" + at(0, 1, 0, 0) + "ticks 2000 = 2001" + at(0, 1, 0, 0)
            + "count 5 = 0; count 6 = 0; done = 0");
        Edge.sameBehind("2 rests of 1 and 6 ticks as one of 7", "record 5 5; change 0 0; ticks 1; ticks 6", "record 5 5; change 0 0; ticks 7");
    }

    private static void looksAtOnce() {
        Edge.holds("2 it RESTS and some PIN is in: it LOOKS", Edge.rack(5, 5) + "coin 25; key 0; song 0 0 = 1" + at(0, 1, 0, 0) + "ticks 1 = 1; song 0 0 = 0; count 1 = 0"
            + at(0, 1, 3, 4));
        Edge.holds("2 its SONG is out: it GOES ON", Edge.rack(5, 5) + "coin 25; key 2; ticks 1 = 1; song 2 0 = 1" + at(0, 1, 1, 3) + "ticks 2" + at(0, 1, 1, 1)
            + "ticks 1; song 2 0 = 0" + at(1, 1, 3, 4));
    }

    /** Down at place 0 it turns; up at place 0 it moves. */
    private static void movesOrTurnsAtTheLowEnd() {
        Edge.holds("2 at PLACE 0 and UP it MOVES; at PLACE 9 and DOWN it MOVES", "coin 10; key 1; ticks 1" + at(0, 1, 1, 3) + "ticks 26 = 27" + at(8, 1, 1, 1)
            + "ticks 1" + at(9, 1, 2, 2) + "ticks 1" + at(9, 1, 2, 1) + "ticks 1 = 30" + at(9, 0, 1, 3) + "ticks 26 = 56" + at(1, 0, 1, 1)
            + "count 6 = 0; ticks 1 = 57; count 6 = 1" + at(0, 0, 0, 0));
        Edge.holds("2 at PLACE 0 and DOWN it TURNS", "coin 25; key 1; ticks 57" + at(0, 0, 0, 0) + "key 0; ticks 1" + at(0, 0, 2, 2) + "ticks 1" + at(0, 0, 2, 1)
            + "count 6 = 1; ticks 1; count 6 = 2" + at(0, 1, 0, 0));
        Edge.holds("2 at PLACE 1 and DOWN it MOVES", "coin 25; key 3; ticks 54; count 6 = 1" + at(1, 0, 0, 0) + "key 1; ticks 1" + at(1, 0, 1, 3) + "ticks 3; count 6 = 2"
            + at(0, 0, 0, 0));
    }

    private static void turnsAtTheHighEnd() {
        Edge.holds("2 at PLACE 9 and UP it TURNS", "coin 25; key 18; ticks 28; count 6 = 1" + at(9, 1, 0, 0) + "key 19; ticks 1" + at(9, 1, 2, 2) + "ticks 2; count 6 = 2"
            + at(9, 0, 0, 0) + "key 18; ticks 1" + at(9, 0, 1, 3) + "ticks 3" + at(8, 0, 1, 3));
        Edge.holds("2 at PLACE 8 and UP it MOVES", "coin 25; key 16; ticks 25; count 6 = 1" + at(8, 1, 0, 0) + "key 18; ticks 1" + at(8, 1, 1, 3) + "ticks 3; count 6 = 2"
            + at(9, 1, 0, 0));
        Edge.holds("2 a whole round back to its own SONG", "coin 10; coin 10; key 0; ticks 1; count 6 = 1; stick 0 1; ticks 1; count 6 = 2" + at(0, 1, 1, 3)
            + "ticks 57; count 6 = 2" + at(0, 0, 2, 1) + "ticks 1 = 60; count 6 = 3" + at(0, 1, 1, 3));
    }

    private static void restsAtTheNextPlace() {
        Edge.holds("2 no PIN is in any more: it MOVES to its end, and RESTS", Edge.rack(5, 5) + "coin 10; key 10; ticks 1; stick 10 2" + at(0, 1, 1, 3) + "done = 3; ticks 2"
            + at(0, 1, 1, 1) + "done = 1; ticks 1" + at(1, 1, 0, 0) + "done = 0; count 6 = 0; count 5 = 0");
        Edge.holds("2 no PIN is in any more: it TURNS to its end, and RESTS", Edge.rack(5, 5) + "coin 10; key 19; ticks 28; stick 19 2" + at(9, 1, 2, 2) + "done = 2; ticks 2"
            + at(9, 0, 0, 0) + "count 6 = 0; count 5 = 0");
        Edge.holds("2 no PIN is in any more: it plays to the end", "record 5 5; change 0 0; coin 25; key 0; key 5; ticks 6; stick 5 2; done = 8; ticks 8" + at(0, 1, 0, 0)
            + "count 5 = 1");
    }

    private static void misses() {
        Edge.holds("2 a MISS: the PIN goes out, if FREE", "coin 10; key 0; ticks 1; count 6 = 1; song 0 0 = 0" + at(0, 1, 0, 0) + "ticks 100; count 6 = 1");
        Edge.holds("2 a MISS: the PIN stays, if STUCK IN", "stick 0 1; ticks 1; count 6 = 1; song 0 0 = 1" + at(0, 1, 1, 3) + "ticks 57; count 6 = 1; ticks 1; count 6 = 2; "
            + "ticks 58; count 6 = 3; count 5 = 0");
        Edge.holds("2 a MISS, other PINS are in: it GOES ON", "coin 25; key 0; key 2; ticks 1; count 6 = 1" + at(0, 1, 1, 3) + "ticks 3; count 6 = 2" + at(1, 1, 0, 0));
        Edge.holds("2 no MISS where a PIN is out", "coin 10; key 19; ticks 29; count 6 = 0; ticks 1; count 6 = 1");
        Edge.holds("2 a RECORD is there in the last TICK", "record 5 5; coin 10; key 2; ticks 3" + at(0, 1, 1, 1) + "change 1 0 = NONE; ticks 1; count 6 = 0" + at(1, 1, 3, 4));
    }

    private static void gripsToPutsBack() {
        Edge.holds("2 what begins in a TICK has all its TICKS ahead", "record 2 3; change 0 0; coin 10; key 0; ticks 1" + at(0, 1, 3, 4) + "ticks 3" + at(0, 1, 3, 1)
            + "song 0 2 = 0; told 0 2 = 0; count 5 = 0; ticks 1; song 0 2 = 1; told 0 2 = 1; told 0 3 = 0; count 5 = 1" + at(0, 1, 4, 2) + "ticks 1" + at(0, 1, 4, 1)
            + "ticks 1" + at(0, 1, 5, 4) + "ticks 3" + at(0, 1, 5, 1) + "ticks 1 = 11" + at(0, 1, 0, 0) + "count 5 = 1; song 0 2 = 1; told 0 2 = 1");
        Edge.holds("2 behind PUTS BACK it GOES ON, and does not LOOK again", "record 2 3; change 0 0; coin 25; key 0; ticks 1; key 0; ticks 10 = 11; song 0 0 = 1"
            + at(0, 1, 1, 3) + "ticks 57; count 5 = 1; ticks 1 = 69; song 0 0 = 0" + at(0, 1, 3, 4));
    }

    private static void leastAndGreatestTime() {
        Edge.holds("2 it PLAYS for its TIME: 1", "record 1 60; change 0 0; coin 25; key 0; ticks 5" + at(0, 1, 4, 1) + "ticks 1" + at(0, 1, 5, 4));
        Edge.holds("2 it PLAYS for its TIME: 60, twice that: 120", "record 1 60; change 0 0; set 1 1; coin 25; key 1; ticks 61" + at(0, 0, 4, 60) + "ticks 59" + at(0, 0, 4, 1)
            + "ticks 1" + at(0, 0, 5, 4) + "ticks 4 = 125" + at(0, 0, 0, 0) + "key 1; ticks 5 = 130" + at(0, 0, 4, 120) + "ticks 119" + at(0, 0, 4, 1)
            + "ticks 1" + at(0, 0, 5, 4) + "ticks 4 = 254" + at(0, 0, 0, 0) + "told 0 3 = 2; told 0 2 = 0");
        Edge.holds("2 twice a TIME of 1", "record 1 60; change 0 0; set 1 1; coin 25; key 0; ticks 10" + at(0, 1, 0, 0) + "key 0; ticks 5" + at(0, 1, 4, 2));
    }

    private static void theLastRecordPlays() {
        Edge.holds("1 RECORDS 0 .. 15: the last PLAYS", "record 1 1 x 15; record 33 44; change 9 15; coin 25; key 18; key 19; ticks 32" + at(9, 1, 4, 33) + "told 15 2 = 1; ticks 43" + at(9, 0, 4, 44)
            + "told 15 3 = 1; told 14 2 = 0; told 14 3 = 0; told 0 2 = 0; ticks 48; count 5 = 2" + at(9, 0, 0, 0));
    }

    private static void grooveEdge() {
        String once = "record 10 10; change 0 0; set 1 2; coin 99; ";
        Edge.holds("2 WEAR above THE GROOVE", once + "key 0; ticks 5; told 0 2 = 1" + at(0, 1, 4, 10) + "ticks 14; key 0; ticks 5; told 0 2 = 2" + at(0, 1, 4, 10)
            + "ticks 14; key 0; ticks 5; told 0 2 = 3" + at(0, 1, 4, 20) + "ticks 24" + at(0, 1, 0, 0));
        Edge.holds("2 the other SIDE has its own WEAR", once + "set 1 1; key 0; ticks 19; key 0; ticks 29; told 0 2 = 2" + at(0, 1, 0, 0) + "key 1; ticks 61; told 0 3 = 1"
            + at(0, 0, 4, 10));
        Edge.holds("2 the WEAR goes with its RECORD", once + "set 1 1; key 0; ticks 19; change 0 -1 = 0; change 1 0; key 2; ticks 8; told 0 2 = 2; song 2 2 = 1; song 0 2 = 1"
            + at(1, 1, 4, 20));
    }

    private static void grooveIsAskedAsItBegins() {
        String worn = "record 10 10; change 0 0; coin 25; key 0; ticks 19; key 0; ticks 4 = 23" + at(0, 1, 3, 1);
        Edge.holds("9 THE GROOVE is set in the last TICK of GRIPS", worn + "set 1 1 = 99; ticks 1" + at(0, 1, 4, 20));
        Edge.holds("9 THE GROOVE is set when it PLAYS", worn + "ticks 1; set 1 1 = 99" + at(0, 1, 4, 10) + "ticks 9" + at(0, 1, 4, 1) + "ticks 1" + at(0, 1, 5, 4));
    }

    /** A song of 1 tick, its pin stuck in: one round has 67 ticks, the n-th time begins at 5 + 67 (n - 1). */
    private static void wearAtMost() {
        String stuck = "record 1 1; change 0 0; stick 0 1; ";
        String to98 = "ticks 2000 x 3; ticks 504 = 6504; told 0 2 = 98; ";
        Edge.holds("2 WEAR 99 at most", stuck + to98 + "ticks 66; told 0 2 = 98; ticks 1; told 0 2 = 99; ticks 67; told 0 2 = 99; count 5 = 100; ticks 67; told 0 2 = 99; count 5 = 101");
        Edge.holds("2 WEAR 99 is not above a GROOVE of 99", stuck + to98 + "ticks 67; told 0 2 = 99" + at(0, 1, 4, 1) + "ticks 67; told 0 2 = 99" + at(0, 1, 4, 1));
        Edge.holds("2 WEAR 99 is above a GROOVE of 98", stuck + "set 1 98; " + to98 + at(0, 1, 4, 1) + "ticks 67; told 0 2 = 99" + at(0, 1, 4, 2) + "ticks 68; told 0 2 = 99"
            + at(0, 1, 4, 2));
    }

    private static void meterGoesRound() {
        Edge.holds("1 a METER (0 .. 99; behind 99 comes 0)", "record 1 1; change 0 0; stick 0 1; ticks 2000 x 3; ticks 571 = 6571; song 0 2 = 99; ticks 66; song 0 2 = 99; "
            + "ticks 1; song 0 2 = 0; count 5 = 100; ticks 67; song 0 2 = 1; count 5 = 101; song 1 2 = 0");
    }

    private static void countsAreFull() {
        Edge.holds("13 none and all", "count 0 = 0; count 8 = 10; " + Edge.rack(1, 1) + "count 0 = 10; count 8 = 0; record 1 1 x 6; count 0 = 16; change 9 -1; count 8 = 1");
        Edge.holds("13 COINS' sum in all, whatever was bought", "coin 99; coin 1; prices 1 1 1; coin 99; key 0; count 4 = 199; count 2 = 110");
        Edge.holds("13 each by itself", "record 1 1 x 3; change 0 0; change 5 2; coin 50; coin 3; key 0; key 2; key 9; set 0 0; key 9; ticks 14; count 0 = 3; count 1 = 1; "
            + "count 2 = 2; count 3 = 1; count 4 = 53; count 5 = 1; count 6 = 1; count 7 = 14; count 8 = 8");
    }

    private static void severalStepsInOneCall() {
        String asked = Edge.rack(7, 11) + "set 1 1; coin 99; key 0; key 3; key 18; key 19; change 1 -1; stick 9 1; ";
        for (int n : new int[] {2, 57, 200}) {
            Edge.sameBehind("11 " + n + " at once as one by one", asked + "ticks " + n, asked + "ticks 1 x " + n);
        }
        Edge.sameBehind("11 2000 at once as in parts", asked + "ticks 2000", asked + "ticks 1999; ticks 1");
        Edge.sameBehind("11 2000 at once as in parts", asked + "ticks 2000", asked + "ticks 1; ticks 600; ticks 1399");
    }
}
