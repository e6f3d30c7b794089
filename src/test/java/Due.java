/** What the tests share: answers held against those that are due, and the observable state as a text. */
final class Due {
    static final int BAD = RecordBox.BAD, NOT = RecordBox.NOT, FULL = RecordBox.FULL, NONE = RecordBox.NONE;
    static final int NULL = RecordBox.NULL, CAST = RecordBox.CAST, INDEX = RecordBox.INDEX, SIZE = RecordBox.SIZE;
    /** Numbers that are wrong for every bounded argument but those that take -1. */
    static final int[] WILD = {-2, -100, 2001, Integer.MIN_VALUE, Integer.MAX_VALUE};

    private static int asked = 0;
    private static int wrong = 0;

    private Due() {
    }

    static void is(String what, long got, long want) {
        asked++;
        if (got != want) {
            wrong++;
            System.out.println(what + " answered " + got + ", due is " + want);
        }
    }

    static void same(String what, String got, String want) {
        asked++;
        if (!got.equals(want)) {
            wrong++;
            System.out.println(what + ":\n  " + got + "\n  due is\n  " + want);
        }
    }

    static void end() {
        System.out.println(asked + " answers, " + wrong + " wrong");
        if (wrong != 0 || asked == 0) {
            System.exit(1);
        }
    }

    /** A box with ten records of these times in places 0 .. 9. */
    static RecordBox filled(int a, int b) {
        RecordBox box = new RecordBox();
        for (int i = 0; i < 10; i++) {
            box.record(a, b);
            box.change(i, i);
        }
        return box;
    }

    /** Credits enough for so many keys. */
    static void pay(RecordBox box, int credits) {
        for (int i = 0; i < credits; i++) {
            box.coin(10);
        }
    }

    /** All that can be seen but sheets and tape. */
    static String state(RecordBox box) {
        StringBuilder text = new StringBuilder();
        for (int i = 0; i < 9; i++) {
            text.append("count ").append(i).append(' ').append(box.count(i)).append("; ");
        }
        for (int i = 0; i < 4; i++) {
            text.append("carriage ").append(i).append(' ').append(box.carriage(i)).append("; ");
        }
        for (int record = 0; record < box.count(0); record++) {
            for (int what = 0; what < 5; what++) {
                text.append("told ").append(record).append(' ').append(what).append(' ').append(box.told(record, what)).append("; ");
            }
        }
        for (int song = 0; song < 20; song++) {
            for (int what = 0; what < 4; what++) {
                text.append("song ").append(song).append(' ').append(what).append(' ').append(box.song(song, what)).append("; ");
            }
            text.append("when ").append(box.when(song)).append("; ");
        }
        for (int i = 0; i < 20; i++) {
            text.append("next ").append(box.next(i)).append("; ");
        }
        text.append("done ").append(box.done()).append("; ");
        for (int i = 0; i < 3; i++) {
            text.append("better ").append(box.better(i)).append("; ");
        }
        return text.toString();
    }

    /** The bytes of a text onto the tape. */
    static int typed(RecordBox box, String text) {
        int length = 0;
        for (int i = 0; i < text.length(); i++) {
            length = box.type(text.charAt(i), 1);
        }
        return length;
    }
}
