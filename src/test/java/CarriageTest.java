/** Promises 11 to 13: ticks, carriage, count. */
public final class CarriageTest {
    public static void main(String[] args) {
        ticksRefused();
        ticksFull();
        oneSong();
        upAndDown();
        missAndRest();
        pinLostOnTheWay();
        wearAndGroove();
        lastRecord();
        carriageAndCountRefused();
        count();
        Due.end();
    }

    private static void ticksRefused() {
        RecordBox box = new RecordBox();
        Due.is("11 one", box.ticks(1), 1);
        Due.is("11 most", box.ticks(2000), 2001);
        for (int wrong : new int[] {0, -1, 2001, Integer.MIN_VALUE, Integer.MAX_VALUE}) {
            Due.is("11 bad", box.ticks(wrong), Due.BAD);
        }
        Due.is("11 refused passes nothing", box.count(7), 2001);
    }

    private static void ticksFull() {
        RecordBox box = new RecordBox();
        for (int i = 0; i < 499; i++) {
            box.ticks(2000);
        }
        Due.is("11 near the end", box.ticks(1999), 999999);
        Due.is("11 above", box.ticks(2), Due.FULL);
        Due.is("11 above", box.ticks(2000), Due.FULL);
        Due.is("11 bad ahead of full", box.ticks(2001), Due.BAD);
        Due.is("11 refused passes nothing", box.count(7), 999999);
        Due.is("11 the last", box.ticks(1), 1000000);
        Due.is("11 above the last", box.ticks(1), Due.FULL);
        Due.pay(box, 1);
        box.key(0);
        Due.is("11 what would be goes further", box.done(), 1);
    }

    private static void at(String what, RecordBox box, int place, int up, int doing, int left) {
        Due.is(what + ": place", box.carriage(0), place);
        Due.is(what + ": up", box.carriage(1), up);
        Due.is(what + ": does", box.carriage(2), doing);
        Due.is(what + ": left", box.carriage(3), left);
    }

    private static void oneSong() {
        RecordBox box = new RecordBox();
        box.record(2, 3);
        box.change(0, 0);
        Due.pay(box, 1);
        box.key(0);
        at("12 asked", box, 0, 1, 0, 0);
        int[][] steps = {{3, 4}, {3, 3}, {3, 2}, {3, 1}, {4, 2}, {4, 1}, {5, 4}, {5, 3}, {5, 2}, {5, 1}, {0, 0}, {0, 0}};
        for (int i = 0; i < steps.length; i++) {
            Due.is("11 now", box.ticks(1), i + 1);
            at("12 tick " + (i + 1), box, 0, 1, steps[i][0], steps[i][1]);
            Due.is("13 pins", box.count(1), 0);
            Due.is("13 begun", box.count(5), i < 4 ? 0 : 1);
            Due.is("5 meter", box.song(0, 2), i < 4 ? 0 : 1);
            Due.is("4 wear", box.told(0, 2), i < 4 ? 0 : 1);
        }
    }

    private static void upAndDown() {
        RecordBox box = Due.filled(1, 1);
        Due.pay(box, 4);
        box.key(2 * 8 + 1);
        box.key(2 * 9);
        box.ticks(1);
        at("12 moves", box, 0, 1, 1, 3);
        box.ticks(3);
        at("12 one further", box, 1, 1, 1, 3);
        box.ticks(23);
        at("12 up there, nearly", box, 8, 1, 1, 1);
        box.ticks(1);
        at("12 grips at 9", box, 9, 1, 3, 4);
        box.ticks(9);
        at("12 turns at 9", box, 9, 1, 2, 2);
        box.ticks(1);
        at("12 turns at 9", box, 9, 1, 2, 1);
        box.ticks(1);
        at("12 turned, goes down", box, 9, 0, 1, 3);
        box.ticks(3);
        at("12 grips at 8", box, 8, 0, 3, 4);
        box.ticks(9);
        at("12 rests where it is", box, 8, 0, 0, 0);
        box.key(0);
        box.ticks(1 + 8 * 3);
        at("12 turns at 0", box, 0, 0, 2, 2);
        box.ticks(2);
        at("12 goes up, grips", box, 0, 1, 3, 4);
        box.ticks(100);
        at("12 rests", box, 0, 1, 0, 0);
        Due.is("13 begun", box.count(5), 3);
    }

    private static void missAndRest() {
        RecordBox box = new RecordBox();
        Due.pay(box, 2);
        box.key(0);
        box.key(4);
        box.ticks(1);
        Due.is("13 miss", box.count(6), 1);
        Due.is("13 pins", box.count(1), 1);
        at("12 goes on", box, 0, 1, 1, 3);
        box.ticks(6);
        Due.is("13 miss", box.count(6), 2);
        Due.is("13 nothing begun", box.count(5), 0);
        at("12 rests", box, 2, 1, 0, 0);
        box.stick(3, 1);
        box.ticks(1 + 7 * 3 + 2 + 8 * 3);
        Due.is("13 miss, stuck in", box.count(6), 3);
        Due.is("13 stays in", box.count(1), 1);
        at("12 goes on, stuck in", box, 1, 0, 1, 3);
    }

    private static void pinLostOnTheWay() {
        RecordBox box = Due.filled(1, 1);
        Due.pay(box, 1);
        box.key(10);
        box.ticks(2);
        box.stick(10, 2);
        at("12 moves on", box, 0, 1, 1, 2);
        Due.is("16 moves on", box.done(), 2);
        box.ticks(2);
        at("12 rests one further", box, 1, 1, 0, 0);
        Due.is("13 no miss", box.count(6), 0);
    }

    private static void wearAndGroove() {
        RecordBox box = new RecordBox();
        box.record(10, 20);
        box.change(0, 0);
        box.set(1, 2);
        Due.pay(box, 120);
        for (int i = 1; i <= 3; i++) {
            box.key(0);
            Due.is("16 the groove is foreseen", box.done() - box.when(0), i > 2 ? 24 : 14);
            box.ticks(box.done());
            Due.is("4 wear", box.told(0, 2), i);
        }
        Due.is("4 the other side", box.told(0, 3), 0);
        box.set(1, 3);
        box.key(0);
        box.ticks(box.when(0));
        Due.is("12 above the groove", box.carriage(3), 20);
        box.ticks(2000);
        box.set(1, 5);
        box.key(0);
        box.ticks(box.when(0));
        Due.is("12 at the groove", box.carriage(3), 10);
        box.ticks(2000);
        for (int i = 6; i <= 105; i++) {
            box.key(0);
            box.ticks(box.done());
        }
        Due.is("4 wear at most", box.told(0, 2), 99);
        Due.is("5 meter", box.song(0, 2), 5);
        Due.is("13 begun", box.count(5), 105);
        box.set(1, 99);
        box.key(0);
        box.ticks(box.when(0));
        Due.is("12 wear 99 is not above 99", box.carriage(3), 10);
    }

    private static void lastRecord() {
        RecordBox box = new RecordBox();
        for (int i = 0; i < 16; i++) {
            box.record(1 + i, 40 + i);
        }
        box.change(0, 15);
        box.change(1, 0);
        Due.pay(box, 4);
        for (int song = 0; song < 4; song++) {
            box.key(song);
        }
        Due.is("16 all sides", box.done(), 1 + 4 * 8 + 16 + 1 + 40 + 55 + 9 * 3 + 2 + 9 * 3);
        box.ticks(box.done());
        Due.is("13 begun", box.count(5), 4);
        Due.is("4 wear", box.told(15, 2), 1);
        Due.is("4 wear", box.told(15, 3), 1);
        Due.is("12 rests at 0", box.carriage(0), 0);
        Due.is("12 on its way down", box.carriage(1), 0);
    }

    private static void carriageAndCountRefused() {
        RecordBox box = new RecordBox();
        for (int wrong : new int[] {-1, 4, Integer.MIN_VALUE, Integer.MAX_VALUE}) {
            Due.is("12 what", box.carriage(wrong), Due.BAD);
        }
        for (int wrong : new int[] {-1, 9, Integer.MIN_VALUE, Integer.MAX_VALUE}) {
            Due.is("13 what", box.count(wrong), Due.BAD);
        }
    }

    private static void count() {
        RecordBox box = new RecordBox();
        box.record(1, 1);
        box.record(1, 1);
        box.record(1, 1);
        box.change(0, 0);
        box.change(5, 2);
        box.coin(50);
        box.coin(3);
        box.key(0);
        box.key(2);
        box.key(9);
        box.set(0, 0);
        box.key(9);
        box.ticks(14);
        int[] due = {3, 1, 2, 1, 53, 1, 1, 14, 8};
        for (int i = 0; i < due.length; i++) {
            Due.is("13 count " + i, box.count(i), due[i]);
        }
    }
}
