/** Promises 20 and 21: type, evening. */
public final class EveningTest {
    public static void main(String[] args) {
        typeOrder();
        typeRefused();
        typeFull();
        everyKey();
        acts();
        blanks();
        faults();
        aFaultDoesNothing();
        refusedActs();
        theTapeIsEmptyThen();
        Due.end();
    }

    private static int played(RecordBox box, String text) {
        Due.typed(box, text);
        return box.evening();
    }

    private static void typeOrder() {
        RecordBox box = new RecordBox();
        Due.is("20 three of eight", box.type(0x7878787878L << 24 | '+' << 16 | '1' << 8 | '0', 3), 3);
        Due.is("20 four", box.type((long) 'c' << 24 | '2' << 16 | ' ' << 8 | 't', 4), 7);
        Due.is("20 one", box.type(-1L << 8 | '7', 1), 8);
        Due.is("21 three acts", box.evening(), 3);
        Due.is("13 now", box.count(7), 7);
        Due.is("13 coins", box.count(4), 10);
        Due.is("5 pin", box.song(5, 0), 1);
        Due.is("20 eight", box.type(0x2b31302b31302b37L, 8), 8);
        Due.is("21 three coins", box.evening(), 3);
        Due.is("13 coins", box.count(4), 37);
    }

    private static void typeRefused() {
        RecordBox box = new RecordBox();
        for (int wrong : new int[] {0, -1, 9, Integer.MIN_VALUE, Integer.MAX_VALUE}) {
            Due.is("20 n", box.type(0x6161616161616161L, wrong), Due.BAD);
        }
        Due.is("20 31", box.type(31, 1), Due.BAD);
        Due.is("20 127", box.type(127, 1), Due.BAD);
        Due.is("20 0", box.type(0, 1), Due.BAD);
        Due.is("20 255", box.type(-1L, 1), Due.BAD);
        Due.is("20 161", box.type(161, 1), Due.BAD);
        for (int i = 0; i < 8; i++) {
            long hole = 0x6161616161616161L & ~(255L << 8 * i);
            Due.is("20 a hole at " + i, box.type(hole, 8), Due.BAD);
            Due.is("20 a hole beyond", box.type(hole, i + 1), Due.BAD);
            if (i > 0) {
                RecordBox other = new RecordBox();
                Due.is("20 a hole ahead is not looked at", other.type(hole, i), i);
            }
        }
        Due.is("20 refused adds nothing", box.type(32, 1), 1);
        Due.is("20 126", box.type(126, 1), 2);
    }

    private static void typeFull() {
        RecordBox box = new RecordBox();
        for (int i = 1; i <= 9; i++) {
            Due.is("20 eights", box.type(0x2020202020202020L, 8), 8 * i);
        }
        Due.is("20 to 75", box.type(0x2b3939L, 3), 75);
        Due.is("20 81", box.type(0x202020202020L, 6), Due.FULL);
        Due.is("20 bad ahead of full", box.type(0x202020002020L, 6), Due.BAD);
        Due.is("20 bad ahead of full", box.type(0x202020202020L, 9), Due.BAD);
        Due.is("20 to 80", box.type(0x2b31202020L, 5), 80);
        Due.is("20 full", box.type(32, 1), Due.FULL);
        Due.is("21 two", box.evening(), 2);
        Due.is("13 coins", box.count(4), 100);
        for (int i = 0; i < 10; i++) {
            box.type(0x6131623163316431L, 8);
        }
        Due.pay(box, 40);
        box.set(0, 0);
        Due.is("21 forty acts", box.evening(), 40);
    }

    private static void everyKey() {
        for (int song = 0; song < 20; song++) {
            RecordBox box = new RecordBox();
            box.coin(10);
            String text = "" + (char) ('a' + song / 2) + (char) ('1' + song % 2);
            Due.is("21 " + text, played(box, text), 1);
            Due.is("21 pin of " + text, box.song(song, 0), 1);
            Due.is("21 pins", box.count(1), 1);
        }
    }

    private static void acts() {
        RecordBox box = Due.filled(5, 5);
        Due.is("21 all", played(box, "+99a1j2t999+1t1"), 6);
        Due.is("13 now", box.count(7), 1000);
        Due.is("13 coins", box.count(4), 100);
        Due.is("13 begun", box.count(5), 2);
        Due.is("21 leading zeros", played(box, "+00007t000009"), 2);
        Due.is("13 now", box.count(7), 1009);
        Due.is("13 coins", box.count(4), 107);
    }

    private static void blanks() {
        RecordBox box = Due.filled(5, 5);
        Due.is("21 blanks about", played(box, "   +99    a1b2   "), 3);
        Due.is("21 blanks do not count", played(box, "c  1 +  5 t 7"), 3);
        Due.is("13 coins", box.count(4), 104);
        Due.is("13 now", box.count(7), 7);
        Due.is("5 pin", box.song(4, 0), 1);
        Due.is("21 a blank ends a number", played(box, "+1 2"), -23);
        Due.is("21 blanks alone", played(box, "    "), -24);
    }

    private static void faults() {
        Object[][] due = {
            {"", 0}, {"x", 0}, {"k1", 0}, {"A1", 0}, {"1", 0}, {"`1", 0}, {"u5", 0}, {",5", 0}, {"  ?", 2},
            {"a", 1}, {"a0", 1}, {"a3", 1}, {"aa1", 1}, {"a ", 2}, {"a  b1", 3}, {"a1b", 3}, {"a1b3", 3}, {"a11", 2}, {"a12", 2},
            {"+", 1}, {"+ ", 2}, {"+a1", 1}, {"+-5", 1}, {"++5", 1}, {"+0", 1}, {"+00", 1}, {"+100", 1}, {"+ 100", 2}, {"+099", -1},
            {"+0100", 1}, {"+100x", 1}, {"+5x", 2}, {"+5 x", 3}, {"+5.5", 2},
            {"t", 1}, {"t0", 1}, {"t1000", 1}, {"t999", -1}, {"t0999", -1}, {"t4294967297", 1}, {"t10000000000000000000001", 1},
            {"+4294967301", 1}, {"+5a1t7a", 7}, {"a1 b2 c1 k", 9}, {"+5+", 3}, {"+5t", 3}, {"/5", 0}, {"+5:", 2}, {"+/", 1}, {"t:", 1},
            {"+9 9", 3}, {"t1 000", 3}, {"~", 0}, {"a~", 1}};
        for (Object[] row : due) {
            RecordBox box = new RecordBox();
            int place = (Integer) row[1];
            Due.is("21 '" + row[0] + "'", played(box, (String) row[0]), place < 0 ? 1 : -20 - place);
        }
        RecordBox box = new RecordBox();
        Due.is("20 the whole tape", Due.typed(box, "a1".repeat(39) + " a"), 80);
        Due.is("21 the end of the whole tape", box.evening(), -100);
        Due.typed(box, "+" + "9".repeat(79));
        Due.is("21 a number to the end", box.evening(), -21);
        Due.typed(box, "+" + "0".repeat(77) + "99");
        Due.is("21 zeros to the end", box.evening(), 1);
    }

    private static void aFaultDoesNothing() {
        RecordBox box = Due.filled(5, 5);
        Due.pay(box, 3);
        String before = Due.state(box);
        Due.is("21 fault", played(box, "a1 +50 t100 b2 z"), -35);
        Due.same("21 nothing is done", Due.state(box), before);
        Due.is("21 the tape is empty", box.evening(), -20);
    }

    private static void refusedActs() {
        RecordBox box = Due.filled(5, 5);
        Due.is("21 no credit", played(box, "a1 +50 t100"), 0);
        Due.is("13 the rest is not done", box.count(4), 0);
        Due.is("21 in vain", played(box, "+25 a1 a1 t5"), 2);
        Due.is("13 the rest is not done", box.count(7), 0);
        Due.is("13 credits", box.count(2), 2);
        box.set(0, 0);
        Due.is("21 in vain, unkind, is done", played(box, "a1 a1 t5"), 3);
        Due.is("13 lost", box.count(3), 2);
        Due.is("21 the first of a later one", played(box, "t5 b1 +9"), 1);
        Due.is("13 now", box.count(7), 10);
    }

    private static void theTapeIsEmptyThen() {
        RecordBox box = new RecordBox();
        played(box, "+5");
        Due.is("20 empty after acts", box.type('+', 1), 1);
        Due.is("21 fault", box.evening(), -21);
        Due.is("20 empty after a fault", box.type('+', 1), 1);
        box.evening();
        played(box, "a1");
        Due.is("20 empty after a refusal", box.type('t', 1), 1);
        Due.is("20 two", box.type('9', 1), 2);
        Due.is("21 done", box.evening(), 1);
        Due.is("21 empty", box.evening(), -20);
    }
}
