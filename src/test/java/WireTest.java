/** Promises 18 and 19: heard, mayBe. */
public final class WireTest {
    public static void main(String[] args) {
        everySong();
        notUnderstood();
        gapEdge();
        lanes();
        refusedInOrder();
        fromWithin();
        Due.end();
    }

    /** A sheet of ints with the times of so many pulses ahead of a gap, and behind it. */
    private static RecordBox wired(int ahead, int behind) {
        RecordBox box = new RecordBox();
        int n = ahead + behind - 1;
        box.sheet(0, 2, n);
        for (int i = 0; i < n; i++) {
            box.item(0, 2, i, i == ahead - 1 ? 500 : 1 + i % 3);
        }
        return box;
    }

    private static void everySong() {
        for (int ahead = 1; ahead <= 10; ahead++) {
            for (int behind = 1; behind <= 2; behind++) {
                RecordBox box = wired(ahead, behind);
                int song = 2 * (ahead - 1) + behind - 1;
                int bits = 1 << song | (ahead < 10 ? 1 << song + 2 : 0) | (behind < 2 ? 1 << song + 1 : 0);
                int n = ahead + behind - 1;
                Due.is("18 song " + song, box.heard(0, 2, 0, n, 500), song);
                Due.is("19 song " + song, box.mayBe(0, 2, 0, n, 500), bits);
            }
        }
    }

    private static void notUnderstood() {
        Due.is("18 too many ahead", wired(11, 1).heard(0, 2, 0, 11, 500), Due.NONE);
        Due.is("19 too many ahead", wired(11, 1).mayBe(0, 2, 0, 11, 500), Due.NONE);
        Due.is("18 too many behind", wired(1, 3).heard(0, 2, 0, 3, 500), Due.NONE);
        Due.is("19 too many behind", wired(1, 3).mayBe(0, 2, 0, 3, 500), Due.NONE);
        Due.is("18 the longest", wired(19, 2).heard(0, 2, 0, 20, 500), Due.NONE);
        Due.is("18 no gap", wired(5, 1).heard(0, 2, 0, 4, 500), Due.NONE);
        Due.is("19 no gap", wired(5, 1).mayBe(0, 2, 0, 4, 500), Due.NONE);
        Due.is("18 gaps alone", wired(1, 2).heard(0, 2, 0, 2, 1), Due.NONE);
        Due.is("19 gaps alone", wired(1, 2).mayBe(0, 2, 0, 2, 1), Due.NONE);
    }

    private static void gapEdge() {
        RecordBox box = new RecordBox();
        box.sheet(1, 2, 3);
        box.item(1, 2, 0, 1);
        box.item(1, 2, 1, 999);
        box.item(1, 2, 2, 998);
        Due.is("18 a gap is G or more", box.heard(1, 2, 0, 3, 999), 3);
        Due.is("18 two gaps", box.heard(1, 2, 0, 3, 998), Due.NONE);
        Due.is("19 two gaps", box.mayBe(1, 2, 0, 3, 998), Due.NONE);
        Due.is("18 one time, gap 1", box.heard(1, 2, 0, 1, 1), 0);
        Due.is("19 one time, gap 1", box.mayBe(1, 2, 0, 1, 1), 7);
        box.item(1, 2, 1, Integer.MAX_VALUE);
        Due.is("18 as wide as can be", box.heard(1, 2, 0, 3, 999), 3);
    }

    private static void lanes() {
        RecordBox box = new RecordBox();
        box.sheet(0, 0, 1);
        box.item(0, 0, 0, 200);
        Due.is("18 a byte of 200 is below 1", box.heard(0, 0, 0, 1, 50), Due.NOT);
        box.item(0, 0, 0, 256 + 77);
        Due.is("18 a byte's lowest bits", box.heard(0, 0, 0, 1, 77), 0);
        Due.is("18 a byte's lowest bits", box.heard(0, 0, 0, 1, 78), Due.NONE);
        box.sheet(0, 1, 1);
        box.item(0, 1, 0, 40000);
        Due.is("18 a short of 40000 is below 1", box.heard(0, 1, 0, 1, 50), Due.NOT);
        box.item(0, 1, 0, 65536 + 300);
        Due.is("18 a short's lowest bits", box.heard(0, 1, 0, 1, 300), 0);
        Due.is("18 a short's lowest bits", box.heard(0, 1, 0, 1, 301), Due.NONE);
        box.sheet(0, 2, 1);
        box.item(0, 2, 0, 40000);
        Due.is("18 an int of 40000", box.heard(0, 2, 0, 1, 999), 0);
    }

    private static void both(String what, RecordBox box, int[] call, int want) {
        Due.is("18 " + what, box.heard(call[0], call[1], call[2], call[3], call[4]), want);
        Due.is("19 " + what, box.mayBe(call[0], call[1], call[2], call[3], call[4]), want);
    }

    private static void refusedInOrder() {
        RecordBox box = new RecordBox();
        box.sheet(2, 1, 5);
        box.item(2, 1, 0, 9);
        for (int wrong : new int[] {-1, 4, Integer.MIN_VALUE, Integer.MAX_VALUE}) {
            both("sheet", box, new int[] {wrong, 1, 0, 1, 5}, Due.BAD);
        }
        for (int wrong : new int[] {-1, 3, Integer.MIN_VALUE, Integer.MAX_VALUE}) {
            both("lane", box, new int[] {2, wrong, 0, 1, 5}, Due.BAD);
            both("lane, ahead of NULL", box, new int[] {0, wrong, 0, 1, 5}, Due.BAD);
        }
        for (int wrong : new int[] {0, -1, 21, Integer.MIN_VALUE, Integer.MAX_VALUE}) {
            both("n", box, new int[] {2, 1, 0, wrong, 5}, Due.BAD);
            both("n, ahead of NULL", box, new int[] {0, 1, 0, wrong, 5}, Due.BAD);
            both("n, ahead of CAST", box, new int[] {2, 0, 0, wrong, 5}, Due.BAD);
        }
        for (int wrong : new int[] {0, -1, 1000, Integer.MIN_VALUE, Integer.MAX_VALUE}) {
            both("g", box, new int[] {2, 1, 0, 1, wrong}, Due.BAD);
            both("g, ahead of INDEX", box, new int[] {2, 1, -1, 1, wrong}, Due.BAD);
        }
        both("nothing there, ahead of INDEX", box, new int[] {0, 1, -1, 1, 5}, Due.NULL);
        both("another lane, ahead of INDEX", box, new int[] {2, 2, -1, 1, 5}, Due.CAST);
        both("another lane", box, new int[] {2, 0, 0, 1, 5}, Due.CAST);
        for (int wrong : new int[] {-1, 5, 6, Integer.MIN_VALUE, Integer.MAX_VALUE}) {
            both("from", box, new int[] {2, 1, wrong, 1, 5}, Due.INDEX);
        }
        both("from and n, ahead of NOT", box, new int[] {2, 1, 1, 5, 5}, Due.INDEX);
        both("n too many, ahead of NOT", box, new int[] {2, 1, 0, 6, 5}, Due.INDEX);
        both("one is 0", box, new int[] {2, 1, 0, 5, 5}, Due.NOT);
        both("one is 0, ahead of NONE", box, new int[] {2, 1, 1, 1, 5}, Due.NOT);
        box.item(2, 1, 1, -1);
        both("one is below 0", box, new int[] {2, 1, 0, 2, 5}, Due.NOT);
        both("no gap", box, new int[] {2, 1, 0, 1, 10}, Due.NONE);
        box.sheet(3, 0, 0);
        both("a row of nothing", box, new int[] {3, 0, 0, 1, 5}, Due.INDEX);
    }

    private static void fromWithin() {
        RecordBox box = new RecordBox();
        box.sheet(3, 0, 24);
        for (int i = 0; i < 24; i++) {
            box.item(3, 0, i, i == 22 ? 100 : 2);
        }
        Due.is("18 the last two", box.heard(3, 0, 22, 2, 100), 1);
        Due.is("18 up to the end", box.heard(3, 0, 13, 11, 100), 19);
        Due.is("19 up to the end", box.mayBe(3, 0, 13, 11, 100), 1 << 19);
        Due.is("18 twenty up to the end", box.heard(3, 0, 4, 20, 100), Due.NONE);
        Due.is("18 one beyond the end", box.heard(3, 0, 5, 20, 100), Due.INDEX);
    }
}
