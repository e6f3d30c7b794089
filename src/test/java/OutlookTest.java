/** Promises 14 to 17: next, when, done, better. */
public final class OutlookTest {
    public static void main(String[] args) {
        refused();
        order();
        grippedAndPlayed();
        askedAgainWhileGripped();
        stuckInTells64();
        stuckInAtAnEmptyPlace();
        nothingIsChanged();
        done();
        betterByTime();
        betterLeastOfLike();
        betterByWear();
        betterNotWhileOut();
        betterRefused();
        freshAfterEachChange();
        Due.end();
    }

    private static void refused() {
        RecordBox box = Due.filled(1, 1);
        for (int wrong : new int[] {-1, 64, Integer.MIN_VALUE, Integer.MAX_VALUE}) {
            Due.is("14 bad", box.next(wrong), Due.BAD);
        }
        for (int wrong : new int[] {-1, 20, Integer.MIN_VALUE, Integer.MAX_VALUE}) {
            Due.is("15 bad", box.when(wrong), Due.BAD);
        }
        for (int wrong : new int[] {-1, 3, Integer.MIN_VALUE, Integer.MAX_VALUE}) {
            Due.is("17 bad", box.better(wrong), Due.BAD);
        }
        Due.is("14 none", box.next(0), Due.NONE);
        Due.is("14 none, the last", box.next(63), Due.NONE);
        Due.is("15 none", box.when(0), Due.NONE);
        Due.is("16 rests", box.done(), 0);
        Due.is("17 none", box.better(0), Due.NONE);
    }

    private static void order() {
        RecordBox box = Due.filled(10, 20);
        Due.pay(box, 5);
        for (int song : new int[] {1, 19, 18, 5, 4}) {
            box.key(song);
        }
        int[] songs = {4, 18, 19, 5, 1};
        int at = 1;
        int[] starts = new int[5];
        starts[0] = at += 2 * 3 + 4;
        starts[1] = at += 10 + 4 + 7 * 3 + 4;
        starts[2] = at += 10 + 4 + 2 + 4;
        starts[3] = at += 20 + 4 + 7 * 3 + 4;
        starts[4] = at += 20 + 4 + 2 * 3 + 4;
        for (int i = 0; i < 5; i++) {
            Due.is("14 song " + i, box.next(i), songs[i]);
            Due.is("15 song " + songs[i], box.when(songs[i]), starts[i]);
        }
        Due.is("14 no more", box.next(5), Due.NONE);
        Due.is("15 not asked", box.when(0), Due.NONE);
        Due.is("16 done", box.done(), at + 20 + 4);
        box.change(2, -1);
        Due.is("14 an empty place is passed", box.next(0), 18);
        Due.is("15 not among them", box.when(4), Due.NONE);
    }

    private static void grippedAndPlayed() {
        RecordBox box = Due.filled(5, 5);
        Due.pay(box, 2);
        box.key(0);
        box.key(2);
        box.ticks(2);
        Due.is("14 gripped is the first", box.next(0), 0);
        Due.is("15 gripped", box.when(0), 3);
        Due.is("14 second", box.next(1), 2);
        box.ticks(2);
        Due.is("15 gripped, the last tick", box.when(0), 1);
        box.ticks(1);
        Due.is("14 played is not", box.next(0), 2);
        Due.is("15 played is not", box.when(0), Due.NONE);
        Due.is("15 next", box.when(2), 5 + 4 + 3 + 4);
        Due.is("14 no more", box.next(1), Due.NONE);
        box.ticks(7);
        Due.is("12 puts back", box.carriage(2), 5);
        Due.is("14 put back is not", box.next(0), 2);
        Due.is("16 done", box.done(), 2 + 3 + 4 + 5 + 4);
    }

    private static void askedAgainWhileGripped() {
        RecordBox box = new RecordBox();
        box.record(10, 10);
        box.change(0, 0);
        box.set(1, 1);
        Due.pay(box, 2);
        box.key(0);
        box.ticks(1);
        box.key(0);
        int second = 4 + 10 + 4 + 9 * 3 + 2 + 9 * 3 + 2 + 4;
        Due.is("14 first", box.next(0), 0);
        Due.is("14 again", box.next(1), 0);
        Due.is("14 no more", box.next(2), Due.NONE);
        Due.is("15 the first of both", box.when(0), 4);
        Due.is("16 the wear of the first counts", box.done(), second + 20 + 4);
    }

    private static void stuckInTells64() {
        RecordBox box = Due.filled(1, 1);
        Due.pay(box, 1);
        box.stick(0, 1);
        box.stick(19, 1);
        box.key(9);
        int[] first = {0, 19, 9, 0, 19, 0, 19};
        for (int i = 0; i < first.length; i++) {
            Due.is("14 stuck in " + i, box.next(i), first[i]);
        }
        Due.is("14 the last told", box.next(63), 0);
        Due.is("14 the one ahead of it", box.next(62), 19);
        Due.is("14 no more are told", box.next(64), Due.BAD);
        Due.is("16 never", box.done(), Due.NOT);
        Due.is("17 never", box.better(0), Due.NOT);
        Due.is("17 bad ahead of not", box.better(3), Due.BAD);
        box.stick(0, 0);
        box.stick(19, 0);
        Due.is("16 free again", box.done() > 0 ? 1 : 0, 1);
    }

    private static void stuckInAtAnEmptyPlace() {
        RecordBox box = new RecordBox();
        box.record(3, 3);
        box.change(0, 0);
        box.stick(5, 1);
        Due.is("14 nothing ever", box.next(0), Due.NONE);
        Due.is("15 nothing ever", box.when(5), Due.NONE);
        box.ticks(1000);
        Due.pay(box, 1);
        box.key(0);
        Due.is("14 one, then nothing", box.next(0), 0);
        Due.is("14 one, then nothing", box.next(1), Due.NONE);
        Due.is("15 one", box.when(0) > 0 ? 1 : 0, 1);
        box.ticks(box.when(0));
        Due.is("12 plays", box.carriage(2), 4);
        Due.is("12 just begun", box.carriage(3), 3);
    }

    private static void nothingIsChanged() {
        RecordBox box = Due.filled(9, 4);
        Due.pay(box, 3);
        box.key(7);
        box.key(8);
        box.key(13);
        box.ticks(20);
        String before = Due.state(box);
        Due.same("14 to 17 change nothing", Due.state(box), before);
    }

    private static void done() {
        RecordBox box = Due.filled(6, 7);
        Due.pay(box, 4);
        box.key(15);
        box.key(2);
        box.key(0);
        int by = box.done();
        for (int i = 0; i < by; i++) {
            Due.is("16 not yet", box.done(), by - i);
            box.ticks(1);
        }
        Due.is("16 now", box.done(), 0);
        Due.is("12 rests", box.carriage(2), 0);
        box.change(5, -1);
        box.key(11);
        Due.is("16 rests, but a pin is in", box.done() > 0 ? 1 : 0, 1);
        box.stick(11, 2);
        Due.is("16 rests, no pin", box.done(), 0);
        box.stick(3, 1);
        Due.is("16 stuck in", box.done(), Due.NOT);
    }

    private static void pair(String what, RecordBox box, int lesser, int other, int by) {
        Due.is(what + ": lesser", box.better(0), lesser);
        Due.is(what + ": other", box.better(1), other);
        Due.is(what + ": by", box.better(2), by);
    }

    private static void betterByTime() {
        RecordBox box = new RecordBox();
        for (int i = 0; i < 10; i++) {
            box.record(10 + i, 30 - i);
            box.change(i, i);
        }
        Due.pay(box, 2);
        box.key(8);
        Due.is("16 as it is", box.done(), 1 + 4 * 3 + 4 + 14 + 4);
        pair("17 the shortest side", box, 0, 4, 1 + 4 * 3 + 4 + 10 + 4);
        box.change(7, -1);
        pair("17 a miss is shortest", box, 4, 7, 1 + 4 * 3);
        box.change(4, -1);
        pair("17 a miss is it already", box, Due.NONE, Due.NONE, Due.NONE);
    }

    private static void betterLeastOfLike() {
        RecordBox box = Due.filled(20, 20);
        box.change(3, -1);
        box.change(6, -1);
        Due.pay(box, 2);
        box.key(16);
        pair("17 the lesser least", box, 3, 8, 25);
        box.key(4);
        pair("17 the lesser least, then the other", box, 2, 3, 1 + 2 * 3 + 6 * 3 + 4 + 20 + 4);
        box.change(3, 3);
        box.change(6, 6);
        pair("17 none is sooner", box, Due.NONE, Due.NONE, Due.NONE);
    }

    private static void betterByWear() {
        RecordBox box = new RecordBox();
        box.record(10, 10);
        box.record(15, 15);
        box.change(0, 0);
        box.change(1, 1);
        for (int i = 2; i < 10; i++) {
            box.record(30, 30);
            box.change(i, i);
        }
        box.set(1, 1);
        Due.pay(box, 3);
        box.key(0);
        box.ticks(box.done());
        box.key(0);
        Due.is("16 twice the time", box.done(), 1 + 4 + 20 + 4);
        pair("17 the wear goes with the record", box, 0, 1, 1 + 4 + 15 + 4);
        Due.is("3 it was only thought", box.told(0, 4), 0);
    }

    private static void betterNotWhileOut() {
        RecordBox box = Due.filled(20, 20);
        box.change(9, -1);
        Due.pay(box, 2);
        box.key(2);
        box.ticks(4);
        Due.is("12 grips", box.carriage(2), 3);
        pair("17 out while gripped", box, Due.NONE, Due.NONE, Due.NONE);
        box.key(3);
        pair("17 out, asked again", box, Due.NONE, Due.NONE, Due.NONE);
        box.ticks(10);
        Due.is("12 plays", box.carriage(2), 4);
        pair("17 out while played", box, Due.NONE, Due.NONE, Due.NONE);
        box.ticks(15);
        Due.is("12 puts back", box.carriage(2), 5);
        pair("17 out while put back", box, Due.NONE, Due.NONE, Due.NONE);
        box.ticks(3);
        Due.is("12 moves", box.carriage(2), 1);
        pair("17 no longer out", box, 1, 9, 8 * 3 + 2 + 8 * 3);
    }

    private static void betterRefused() {
        RecordBox box = Due.filled(20, 20);
        box.stick(0, 1);
        for (int what = 0; what < 3; what++) {
            Due.is("17 stuck in", box.better(what), Due.NOT);
        }
        box.stick(0, 2);
        Due.is("17 nothing asked", box.better(0), Due.NONE);
    }

    /** What was foreseen is forgotten by each call that changes something. */
    private static void freshAfterEachChange() {
        RecordBox box = Due.filled(20, 20);
        Due.is("15 nothing", box.when(0), Due.NONE);
        Due.is("17 nothing", box.better(0), Due.NONE);
        Due.pay(box, 3);
        box.key(0);
        Due.is("15 after key", box.when(0), 5);
        box.image();
        box.ticks(2);
        Due.is("15 after ticks", box.when(0), 3);
        box.restore();
        Due.is("15 after restore", box.when(0), 5);
        box.change(4, -1);
        Due.is("17 after change", box.better(1), 4);
        box.change(4, 4);
        Due.is("17 after change", box.better(1), Due.NONE);
        box.record(1, 1);
        box.change(4, 10);
        Due.is("17 after record and change", box.better(2), 1 + 4 + 1 + 4);
        box.stick(2, 1);
        Due.is("14 after stick", box.next(1), 2);
        box.stick(2, 2);
        Due.is("14 after stick", box.next(1), Due.NONE);
        Due.typed(box, "b2");
        box.evening();
        Due.is("14 after an evening", box.next(1), 3);
        RecordBox worn = new RecordBox();
        worn.record(10, 10);
        worn.record(12, 12);
        for (int i = 0; i < 8; i++) {
            worn.record(60, 60);
            worn.change(2 + i, 2 + i);
        }
        worn.change(0, 0);
        worn.change(1, 1);
        Due.pay(worn, 2);
        worn.key(0);
        worn.ticks(worn.done());
        worn.key(0);
        Due.is("17 ahead of set", worn.better(1), Due.NONE);
        worn.set(1, 1);
        Due.is("17 after set", worn.better(1), 1);
    }
}
