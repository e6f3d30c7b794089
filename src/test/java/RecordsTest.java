/** Promises 1 to 6: the new object, record, change, told, song, stick. */
public final class RecordsTest {
    public static void main(String[] args) {
        newObject();
        record();
        change();
        changeWhileOut();
        told();
        song();
        stick();
        stickHoldsInTheWorks();
        Due.end();
    }

    private static void newObject() {
        RecordBox box = new RecordBox();
        Due.is("1 empty places", box.count(8), 10);
        for (int i = 0; i < 8; i++) {
            Due.is("1 count " + i, box.count(i), 0);
        }
        for (int song = 0; song < 20; song++) {
            Due.is("1 pin", box.song(song, 0), 0);
            Due.is("1 how", box.song(song, 1), 0);
            Due.is("1 meter", box.song(song, 2), 0);
            Due.is("1 record", box.song(song, 3), Due.NONE);
        }
        Due.is("1 place", box.carriage(0), 0);
        Due.is("1 up", box.carriage(1), 1);
        Due.is("1 rests", box.carriage(2), 0);
        Due.is("1 left", box.carriage(3), 0);
        Due.is("1 kindness", box.set(0, 1), 1);
        Due.is("1 groove", box.set(1, 99), 99);
        Due.is("1 no sheet", box.drop(0), Due.NULL);
        Due.is("1 no image", box.restore(), Due.NONE);
        Due.is("1 no tape", box.evening(), -20);
    }

    private static void record() {
        RecordBox box = new RecordBox();
        Due.is("2 low", box.record(1, 1), 0);
        Due.is("2 high", box.record(60, 60), 1);
        for (int wrong : new int[] {0, -1, 61, Integer.MIN_VALUE, Integer.MAX_VALUE}) {
            Due.is("2 a", box.record(wrong, 5), Due.BAD);
            Due.is("2 b", box.record(5, wrong), Due.BAD);
        }
        Due.is("2 refused adds nothing", box.count(0), 2);
        for (int i = 2; i < 16; i++) {
            Due.is("2 number", box.record(i, 60 - i), i);
        }
        Due.is("2 full", box.record(5, 5), Due.FULL);
        Due.is("2 bad ahead of full", box.record(0, 5), Due.BAD);
        Due.is("2 bad ahead of full", box.record(5, 61), Due.BAD);
        Due.is("2 count", box.count(0), 16);
        Due.is("2 last", box.told(15, 1), 45);
    }

    private static void change() {
        RecordBox box = new RecordBox();
        Due.is("3 no record yet", box.change(0, 0), Due.BAD);
        Due.is("3 none into empty", box.change(0, -1), Due.NONE);
        box.record(5, 6);
        box.record(7, 8);
        Due.is("3 comes in", box.change(3, 0), Due.NONE);
        Due.is("3 empty places", box.count(8), 9);
        Due.is("3 in another place", box.change(4, 0), Due.NOT);
        Due.is("3 refused stays", box.song(8, 3), Due.NONE);
        Due.is("3 into its own place", box.change(3, 0), 0);
        Due.is("3 still there", box.told(0, 4), 3);
        Due.is("3 instead", box.change(3, 1), 0);
        Due.is("3 went out", box.told(0, 4), Due.NONE);
        Due.is("3 last place", box.change(9, 0), Due.NONE);
        Due.is("3 taken out", box.change(3, -1), 1);
        Due.is("3 empty again", box.change(3, -1), Due.NONE);
        String before = Due.state(box);
        for (int wrong : Due.WILD) {
            Due.is("3 place", box.change(wrong, 0), Due.BAD);
            Due.is("3 record", box.change(3, wrong), Due.BAD);
        }
        Due.is("3 place -1", box.change(-1, 0), Due.BAD);
        Due.is("3 place 10", box.change(10, 0), Due.BAD);
        Due.is("3 record 2", box.change(3, 2), Due.BAD);
        Due.same("3 refused changes nothing", Due.state(box), before);
    }

    private static void changeWhileOut() {
        RecordBox box = new RecordBox();
        box.record(5, 5);
        box.record(5, 5);
        box.change(0, 0);
        Due.pay(box, 2);
        box.key(0);
        box.key(2);
        Due.is("3 rests yet", box.change(0, 0), 0);
        box.ticks(1);
        for (int tick = 1; tick < 14; tick++) {
            Due.is("3 out " + tick, box.change(0, -1), Due.NOT);
            Due.is("3 out, the same " + tick, box.change(0, 0), Due.NOT);
            Due.is("3 out, another " + tick, box.change(0, 1), Due.NOT);
            Due.is("3 out, bad " + tick, box.change(0, 2), Due.BAD);
            Due.is("3 another place " + tick, box.change(1, tick % 2 == 0 ? 1 : -1), tick % 2 == 0 || tick == 1 ? Due.NONE : 1);
            box.ticks(1);
        }
        Due.is("3 moves", box.carriage(2), 1);
        Due.is("3 back", box.change(0, -1), 0);
    }

    private static void told() {
        RecordBox box = new RecordBox();
        Due.is("4 none", box.told(0, 0), Due.BAD);
        box.record(5, 60);
        box.record(8, 9);
        box.change(0, 1);
        Due.pay(box, 3);
        box.key(0);
        box.ticks(100);
        box.key(1);
        box.ticks(200);
        box.key(0);
        box.ticks(200);
        Due.is("4 time a", box.told(0, 0), 5);
        Due.is("4 time b", box.told(0, 1), 60);
        Due.is("4 place", box.told(0, 4), Due.NONE);
        Due.is("4 time a", box.told(1, 0), 8);
        Due.is("4 time b", box.told(1, 1), 9);
        Due.is("4 wear a", box.told(1, 2), 2);
        Due.is("4 wear b", box.told(1, 3), 1);
        Due.is("4 place", box.told(1, 4), 0);
        for (int wrong : new int[] {-1, 2, 15, 16, Integer.MIN_VALUE, Integer.MAX_VALUE}) {
            Due.is("4 record", box.told(wrong, 0), Due.BAD);
        }
        for (int wrong : new int[] {-1, 5, Integer.MIN_VALUE, Integer.MAX_VALUE}) {
            Due.is("4 what", box.told(0, wrong), Due.BAD);
        }
    }

    private static void song() {
        RecordBox box = new RecordBox();
        box.record(5, 5);
        box.record(5, 5);
        box.change(9, 1);
        Due.pay(box, 1);
        box.key(19);
        Due.is("5 in", box.song(19, 0), 1);
        Due.is("5 out", box.song(18, 0), 0);
        Due.is("5 free", box.song(19, 1), 0);
        Due.is("5 record b", box.song(19, 3), 1);
        Due.is("5 record a", box.song(18, 3), 1);
        Due.is("5 no record", box.song(17, 3), Due.NONE);
        box.ticks(200);
        Due.is("5 meter", box.song(19, 2), 1);
        Due.is("5 meter of the other", box.song(18, 2), 0);
        box.change(9, 0);
        Due.is("5 the meter is the song's", box.song(19, 2), 1);
        Due.is("5 the wear is the record's", box.told(0, 3), 0);
        for (int wrong : new int[] {-1, 20, Integer.MIN_VALUE, Integer.MAX_VALUE}) {
            Due.is("5 song", box.song(wrong, 0), Due.BAD);
        }
        for (int wrong : new int[] {-1, 4, Integer.MIN_VALUE, Integer.MAX_VALUE}) {
            Due.is("5 what", box.song(0, wrong), Due.BAD);
        }
    }

    private static void stick() {
        int[][] steps = {{1, 0, 1}, {2, 1, 0}, {1, 2, 1}, {1, 1, 1}, {0, 1, 1}, {0, 0, 1}, {2, 0, 0}, {0, 2, 0}, {2, 0, 0}, {2, 2, 0}};
        for (int song = 0; song < 20; song++) {
            RecordBox box = new RecordBox();
            for (int[] step : steps) {
                Due.is("6 was", box.stick(song, step[0]), step[1]);
                Due.is("6 how", box.song(song, 1), step[0]);
                Due.is("6 pin", box.song(song, 0), step[2]);
                Due.is("6 pins", box.count(1), step[2]);
            }
        }
        RecordBox box = new RecordBox();
        box.stick(0, 1);
        String before = Due.state(box);
        for (int wrong : new int[] {-1, 20, Integer.MIN_VALUE, Integer.MAX_VALUE}) {
            Due.is("6 song", box.stick(wrong, 0), Due.BAD);
        }
        for (int wrong : new int[] {-1, 3, Integer.MIN_VALUE, Integer.MAX_VALUE}) {
            Due.is("6 how", box.stick(0, wrong), Due.BAD);
        }
        Due.same("6 refused changes nothing", Due.state(box), before);
    }

    private static void stickHoldsInTheWorks() {
        RecordBox box = new RecordBox();
        box.record(1, 1);
        box.change(0, 0);
        box.stick(0, 1);
        box.ticks(1);
        Due.is("6 stuck in stays in", box.song(0, 0), 1);
        Due.is("6 grips", box.carriage(2), 3);
        box.stick(0, 0);
        Due.is("6 free stays in", box.song(0, 0), 1);
        box.ticks(200);
        Due.is("6 played twice, then out", box.song(0, 2), 2);
        Due.is("6 out", box.song(0, 0), 0);
    }
}
