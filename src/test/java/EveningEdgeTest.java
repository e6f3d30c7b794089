/** The edges of the tape and of evenings: part 3 of the document, promises 20 and 21. */
public final class EveningEdgeTest {
    private static final String BUSY = "record 5 5; change 0 0; coin 24; key 0; ticks 2; ";

    public static void main(String[] args) {
        wordSizes();
        byteEdges();
        everyByte();
        highestFirst();
        theTapeIsFull();
        letters();
        sides();
        coins();
        ticks();
        blanks();
        theFirstThatCannotStand();
        numbersThatAreNone();
        nothingIsDone();
        anEmptyOne();
        tillOneIsRefused();
        refusedByTheLastTick();
        mostActs();
        theTapeIsEmptyThen();
        Due.end();
    }

    private static void wordSizes() {
        Edge.holds("20 n lowest bytes (1 .. 8)", "type 0x2b 1 = 1; type 0x3120202020202020 8 = 9; evening = 1; count 4 = 1");
        Edge.holds("20 BAD: n", "type 0x2b 1 = 1" + Edge.each("type 0x6161616161616161 #", "0 -1 9 64 MIN MAX", "BAD") + "type 0x35 1 = 2; evening = 1; count 4 = 5");
        StringBuilder sizes = new StringBuilder();
        for (int n = 1, length = 0; n <= 8; n++) {
            length += n;
            sizes.append("type 0x2020202020202020 ").append(n).append(" = ").append(length).append("; ");
        }
        Edge.holds("20 how many it has", sizes.toString());
    }

    private static void byteEdges() {
        Edge.holds("20 a byte 32 .. 126", "type 32 1 = 1; type 126 1 = 2; type 0x7e207e207e207e20 8 = 10");
        Edge.holds("20 BAD: a byte", "type 0x2b 1 = 1" + Edge.each("type # 1", "0 31 127 128 160 254 255 -1 -128 256 0x2b1f 0x2b7f 9223372036854775807 -9223372036854775808", "BAD"));
        for (int i = 0; i < 8; i++) {
            for (long wrong : new long[] {0, 31, 127, 128, 255}) {
                long word = 0x6161616161616161L & ~(255L << 8 * i) | wrong << 8 * i;
                String run = "type 0x2b 1 = 1; type " + word + " 8 = BAD; type " + word + " " + (i + 1) + " = BAD; ";
                // A byte that is not among the n lowest is not looked at.
                Edge.holds("20 BAD: a byte of " + i, run + (i > 0 ? "type " + word + " " + i + " = " + (i + 1) : ""));
            }
        }
    }

    private static void everyByte() {
        for (int sign = 0; sign < 256; sign++) {
            boolean taken = sign >= 32 && sign <= 126;
            Due.is("20 byte " + sign, new RecordBox().type(sign, 1), taken ? 1 : RecordBox.BAD);
            Due.is("20 byte " + sign + " of eight", new RecordBox().type((long) sign << 56 | 0x61616161616161L, 8), taken ? 8 : RecordBox.BAD);
        }
    }

    private static void highestFirst() {
        Edge.holds("20 the highest first", "type 0x2b3132 3 = 3; type 0x20743930306a3200 8 = BAD; type 0x743930306a32 6 = 9; evening = 3; count 4 = 12; count 7 = 900; song 19 0 = 1");
        Edge.holds("20 behind what is there", "type 0x2b 1 = 1; type 0x39 1 = 2; type 0x38 1 = 3; evening = 1; count 4 = 98");
        Edge.holds("20 what is above the n lowest does not come", "type 0x3131313131312b35 2 = 2; type -224 1 = 3; evening = 1; count 4 = 5");
    }

    private static void theTapeIsFull() {
        String blank = "type 0x2020202020202020 8; ".repeat(9);
        Edge.holds("20 FULL: 80", blank + "type 0x2b39202020202020 8 = 80; type 32 1 = FULL; type 0x2020202020202020 8 = FULL; evening = 1; count 4 = 9; type 32 1 = 1");
        for (int room = 0; room < 8; room++) {
            String words = "tape '" + " ".repeat(80 - room) + "' = " + (80 - room) + "; type 0x2020202020202020 ";
            Edge.holds("20 FULL: one more than there is room", words + (room + 1) + " = FULL; type 0x2020202020202020 8 = FULL");
            Edge.holds("20 as much as there is room", room > 0 ? words + room + " = 80; type 32 1 = FULL" : words + "1 = FULL");
        }
        Edge.holds("20 BAD, then FULL", blank + "type 0x2020202020202020 8 = 80" + Edge.each("type 0x20 #", "0 9 MIN MAX", "BAD") + "type 31 1 = BAD; type 127 1 = BAD; type 0x2020201f20202020 8 = BAD");
    }

    private static void fault(String text, int place) {
        Edge.holds("21 '" + text + "'", BUSY + "tape '" + text + "'; evening = " + (-20 - place));
        Edge.sameBehind("21 '" + text + "': nothing is done", BUSY + "tape '" + text + "'; evening", BUSY);
    }

    private static void letters() {
        for (int place = 0; place < 10; place++) {
            for (int side = 0; side < 2; side++) {
                String key = "" + (char) ('a' + place) + (1 + side);
                Edge.holds("3 a letter a .. j and 1 or 2", "coin 10; tape '" + key + "' = 2; evening = 1; count 1 = 1; count 2 = 0; song " + (2 * place + side) + " 0 = 1");
            }
        }
        for (char sign : "`klsuzAJT0129-,*/?@[{|}~_^]<>!\"#$%&().:".toCharArray()) {
            fault(sign + "1", 0);
            fault("a1" + sign + "1", 2);
        }
    }

    private static void sides() {
        for (char sign : "03456789abjt+-/:~A".toCharArray()) {
            fault("a" + sign, 1);
            fault("j  " + sign, 3);
        }
        fault("a", 1);
        fault("a ", 2);
        fault("j1b", 3);
        fault("a11", 2);
        fault("a12", 2);
        fault("a1 2", 3);
    }

    private static void coins() {
        Edge.holds("3 + and a number (1 .. 99)", "tape '+1+99' = 5; evening = 2; count 4 = 100; tape '+9+10'; evening = 2; count 4 = 119");
        Edge.holds("3 a number of 1 .. 99 with zeros ahead", "tape '+01+099+00000009'; evening = 3; count 4 = 109");
        fault("+0", 1);
        fault("+00", 1);
        fault("+100", 1);
        fault("+0100", 1);
        fault("+999", 1);
        fault("+1 +100", 4);
        fault("+", 1);
        fault("+ ", 2);
        fault("+a1", 1);
        fault("++1", 1);
        fault("+-1", 1);
        fault("+t1", 1);
        fault("+/", 1);
        fault("+:", 1);
    }

    private static void ticks() {
        Edge.holds("3 t and a number (1 .. 999)", "tape 't1t999' = 6; evening = 2; count 7 = 1000; tape 't9t10t99t100'; evening = 4; count 7 = 1218");
        Edge.holds("3 a number of 1 .. 999 with zeros ahead", "tape 't01t0999'; evening = 2; count 7 = 1000");
        fault("t0", 1);
        fault("t000", 1);
        fault("t1000", 1);
        fault("t01000", 1);
        fault("t2000", 1);
        fault("t1 t1000", 4);
        fault("t", 1);
        fault("t  ", 3);
        fault("tt1", 1);
        fault("t+1", 1);
        fault("ta1", 1);
        fault("t-1", 1);
    }

    private static void blanks() {
        Edge.holds("3 blanks between (any, or none)", "tape '+25a1b2t5'; evening = 4; tape ' +25  a2 b1   t5  '; evening = 4; count 4 = 50; count 7 = 10; count 1 = 3; count 6 = 1");
        Edge.holds("3 blanks do not count", "tape '+ 25 a  1 t  5'; evening = 3; count 4 = 25; count 7 = 5; count 6 = 1");
        Edge.holds("3 a blank ends a number", "tape '+5 +6'; evening = 2; tape '+5 t6'; evening = 2; count 4 = 16; count 7 = 6");
        fault("+1 2", 3);
        fault("+9 9", 3);
        fault("t1 000", 3);
        fault("+1  2a1", 4);
        fault("+0 5", 1);
        fault(" ", 1);
        fault("    ", 4);
        fault("  ?", 2);
        fault("  a  ", 5);
        fault("a  3", 3);
        fault("+  100", 3);
        fault("a1 b2 c1 k", 9);
    }

    private static void theFirstThatCannotStand() {
        fault("xy", 0);
        fault("a1xa3", 2);
        fault("a3x", 1);
        fault("+100x", 1);
        fault("+5x", 2);
        fault("+5.5", 2);
        fault("+5-", 2);
        fault("t5,", 2);
        fault("+5+", 3);
        fault("+5t", 3);
        fault("+5a", 3);
        fault("+5a1t7a", 7);
        fault("t5+100+0", 3);
        Edge.holds("3 the end: how many bytes there are", "tape '" + "a1".repeat(39) + " a' = 80; evening = -100; tape '" + "a1".repeat(39) + "a ' = 80; evening = -100; tape '"
            + "a1".repeat(39) + "+ ' = 80; evening = -100; tape '" + "a1".repeat(39) + "a3' = 80; evening = -99; tape '" + " ".repeat(80) + "' = 80; evening = -100");
    }

    private static void numbersThatAreNone() {
        for (String digits : new String[] {"2147483647", "2147483648", "2147483649", "4294967295", "4294967297", "4294967301", "9223372036854775808", "18446744073709551617", "99999999999999999999999"}) {
            fault("+" + digits, 1);
            fault("t" + digits, 1);
            fault("+5 t " + digits + "a1", 5);
        }
        Edge.holds("3 a number to the end of the tape", "tape '+" + "9".repeat(79) + "' = 80; evening = -21; tape '+" + "0".repeat(79) + "' = 80; evening = -21; tape '+"
            + "0".repeat(77) + "99' = 80; evening = 1; count 4 = 99; tape 't" + "0".repeat(76) + "999' = 80; evening = 1; count 7 = 999; tape 't" + "0".repeat(75) + "1000' = 80; evening = -21");
    }

    private static void nothingIsDone() {
        Edge.sameBehind("3 a fault: nothing is done", BUSY + "tape 'b1 +50 t100 j2 z'; evening", BUSY);
        Edge.sameBehind("3 a fault at the end: nothing is done", BUSY + "tape 'b1 +50 t100 j'; evening", BUSY);
        Edge.sameBehind("3 a fault behind a refused act: nothing is done", BUSY + "tape 'b1 b1 +50 t0'; evening", BUSY);
        Edge.holds("3 a fault behind a refused act is a fault", "tape 'a1 +0'; evening = -24");
    }

    private static void anEmptyOne() {
        Edge.holds("21 an empty one: -20", "evening = -20; evening = -20; type 32 1 = 1; evening = -21; evening = -20; tape '+5'; evening = 1; evening = -20; tape 'x'; evening = -20; evening = -20");
        Edge.sameBehind("21 an empty one: nothing is done", BUSY + "evening; evening", BUSY);
    }

    private static void tillOneIsRefused() {
        Edge.holds("3 till one is refused: the first", "tape 'a1+50t100'; evening = 0; count 4 = 0; count 7 = 0; count 1 = 0");
        Edge.holds("3 till one is refused: no CREDIT is left", "tape '+10a1b1+50t9'; evening = 2; count 4 = 10; count 1 = 1; count 7 = 0");
        Edge.holds("3 till one is refused: in vain, KINDNESS 1", "tape '+25a1a1t5'; evening = 2; count 2 = 2; count 3 = 0; count 7 = 0");
        Edge.holds("3 in vain, KINDNESS 0: not refused", "set 0 0; tape '+25a1a1t5'; evening = 4; count 2 = 1; count 3 = 1; count 7 = 5");
        Edge.holds("3 in vain, KINDNESS 0, the last CREDIT", "set 0 0; tape '+10a1+10a1a1t5'; evening = 4; count 2 = 0; count 3 = 1; count 7 = 0");
        Edge.holds("3 the last act is refused", "tape '+10t5a1b1'; evening = 3; count 7 = 5; count 1 = 1");
        Edge.sameBehind("3 that and the rest are not", BUSY + "tape '+5 b1 b1 b1 c1 +50 t100'; evening", BUSY + "coin 5; key 2");
        Edge.sameBehind("3 one behind the other", BUSY + "tape '+5 b1 t30 b2 +9 t999'; evening", BUSY + "coin 5; key 2; ticks 30; key 3; coin 9; ticks 999");
    }

    private static void refusedByTheLastTick() {
        Edge.holds("21 NOW would be above 1000000", "ticks 2000 x 499; ticks 1001 = 999001; tape 't999t1+5'; evening = 1; count 7 = 1000000; count 4 = 0; tape '+5t1'; evening = 1; count 4 = 5");
        Edge.holds("21 one too many", "ticks 2000 x 499; ticks 1002 = 999002; tape 't999'; evening = 0; count 7 = 999002; tape 't998+5'; evening = 2; count 7 = 1000000; count 4 = 5");
    }

    private static void mostActs() {
        Edge.holds("21 forty acts on a full tape", "tape '" + "+9".repeat(40) + "' = 80; evening = 40; count 4 = 360; tape '" + "t9".repeat(40) + "' = 80; evening = 40; count 7 = 360; set 0 0; tape '"
            + "a1j2".repeat(20) + "' = 80; evening = 40; count 3 = 38; count 1 = 2");
    }

    private static void theTapeIsEmptyThen() {
        Edge.holds("21 THE TAPE, which is empty then", "tape '+5'; evening = 1; type 0x2b 1 = 1; evening = -21; type 0x2b 1 = 1; type 0x31 1 = 2; evening = 1; tape 'a1'; evening = 0; type 32 1 = 1; count 4 = 6");
        Edge.sameBehind("21 empty behind acts", "tape '+5'; evening", "coin 5");
        Edge.sameBehind("21 empty behind a refused act", "tape 'a1+5'; evening", "");
        Edge.sameBehind("21 nothing of a longer tape comes back", "tape '+5+6+7+8+9x'; evening; tape '+5'; evening", "coin 5");
    }
}
