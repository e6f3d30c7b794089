/** Promises 7 to 10: prices, coin, set, key. */
public final class CoinsTest {
    public static void main(String[] args) {
        prices();
        firstPrices();
        owesLess();
        leastPrices();
        coinEdges();
        set();
        key();
        keyInVain();
        Due.end();
    }

    private static void prices() {
        RecordBox box = new RecordBox();
        box.coin(20);
        Due.is("7 low", box.prices(1, 1, 1), 1);
        Due.is("7 credits stay", box.count(2), 2);
        Due.is("7 high", box.prices(99, 999, 20), 1);
        Due.is("7 q is p", box.prices(99, 99, 20), 1);
        for (int wrong : new int[] {0, -1, 100, Integer.MIN_VALUE, Integer.MAX_VALUE}) {
            Due.is("7 p", box.prices(wrong, 200, 3), Due.BAD);
        }
        for (int wrong : new int[] {0, -1, 9, 1000, Integer.MIN_VALUE, Integer.MAX_VALUE}) {
            Due.is("7 q", box.prices(10, wrong, 3), Due.BAD);
        }
        for (int wrong : new int[] {0, -1, 21, Integer.MIN_VALUE, Integer.MAX_VALUE}) {
            Due.is("7 m", box.prices(10, 25, wrong), Due.BAD);
        }
        Due.is("7 refused: the old ones stand", box.coin(99), 22);
        box.coin(98);
        Due.is("7 refused: the sum stays", box.prices(0, 0, 0), Due.BAD);
        Due.is("7 refused: the sum stays", box.coin(1), 42);
        box.coin(98);
        box.prices(99, 99, 20);
        Due.is("7 the sum is 0", box.coin(1), 42);
        Due.is("7 the coins' sum is not", box.count(4), 20 + 99 + 98 + 1 + 98 + 1);
    }

    private static void firstPrices() {
        RecordBox box = new RecordBox();
        int[][] steps = {{9, 0}, {1, 1}, {9, 1}, {1, 2}, {4, 2}, {1, 3}, {9, 3}, {1, 4}, {10, 5}, {5, 6}, {99, 17}, {1, 18}};
        int sum = 0;
        for (int[] step : steps) {
            sum += step[0];
            Due.is("8 at " + sum, box.coin(step[0]), step[1]);
            Due.is("8 credits", box.count(2), step[1]);
            Due.is("8 in all", box.count(4), sum);
        }
    }

    private static void owesLess() {
        RecordBox box = new RecordBox();
        box.prices(10, 50, 1);
        Due.is("8 four", box.coin(45), 4);
        Due.is("8 owes 1: nothing", box.coin(5), 4);
        Due.is("8 owes 2: one more", box.coin(10), 5);
        Due.is("8 owes 2: no more", box.coin(9), 5);
        Due.is("8 two more", box.coin(20), 7);
    }

    private static void leastPrices() {
        RecordBox box = new RecordBox();
        box.prices(1, 1, 1);
        Due.is("8 one for 1", box.coin(5), 5);
        box.prices(1, 50, 20);
        Due.is("8 one for 1", box.coin(49), 54);
        Due.is("8 owes 20: nothing", box.coin(1), 54);
        box.prices(1, 1, 20);
        Due.is("8 twenty for 1", box.coin(99), 54 + 20 * 99);
    }

    private static void coinEdges() {
        RecordBox box = new RecordBox();
        Due.is("8 least", box.coin(1), 0);
        Due.is("8 most", box.coin(99), 12);
        for (int wrong : new int[] {0, -1, 100, Integer.MIN_VALUE, Integer.MAX_VALUE}) {
            Due.is("8 bad", box.coin(wrong), Due.BAD);
        }
        Due.is("8 refused is not taken", box.count(4), 100);
        Due.is("8 refused gives nothing", box.count(2), 12);
    }

    private static void set() {
        RecordBox box = new RecordBox();
        Due.is("9 kindness", box.set(0, 0), 1);
        Due.is("9 kindness", box.set(0, 0), 0);
        Due.is("9 kindness", box.set(0, 1), 0);
        Due.is("9 groove", box.set(1, 1), 99);
        Due.is("9 groove", box.set(1, 99), 1);
        Due.is("9 groove", box.set(1, 50), 99);
        for (int wrong : new int[] {2, -1, Integer.MIN_VALUE, Integer.MAX_VALUE}) {
            Due.is("9 kindness", box.set(0, wrong), Due.BAD);
            Due.is("9 what", box.set(wrong, 1), Due.BAD);
        }
        for (int wrong : new int[] {0, -1, 100, Integer.MIN_VALUE, Integer.MAX_VALUE}) {
            Due.is("9 groove", box.set(1, wrong), Due.BAD);
        }
        Due.is("9 refused: kindness stays", box.set(0, 1), 1);
        Due.is("9 refused: groove stays", box.set(1, 50), 50);
    }

    private static void key() {
        RecordBox box = new RecordBox();
        Due.is("10 no credit", box.key(0), Due.NOT);
        Due.is("10 bad ahead of not", box.key(20), Due.BAD);
        Due.is("10 no pin", box.count(1), 0);
        Due.pay(box, 2);
        int credits = box.count(2);
        for (int wrong : new int[] {-1, 20, Integer.MIN_VALUE, Integer.MAX_VALUE}) {
            Due.is("10 song", box.key(wrong), Due.BAD);
        }
        Due.is("10 refused takes nothing", box.count(2), credits);
        Due.is("10 first", box.key(0), 1);
        Due.is("10 last", box.key(19), 0);
        Due.is("10 pins", box.count(1), 2);
        Due.is("10 in", box.song(19, 0), 1);
        Due.is("10 none left", box.key(5), Due.NOT);
        Due.is("10 none left, in vain", box.key(0), Due.NOT);
        box.set(0, 0);
        Due.is("10 none left, in vain, unkind", box.key(0), Due.NOT);
        Due.is("10 nothing lost", box.count(3), 0);
    }

    private static void keyInVain() {
        for (int how = 0; how < 3; how++) {
            RecordBox box = new RecordBox();
            Due.pay(box, 3);
            box.key(7);
            box.stick(7, how);
            int credits = box.count(2);
            Due.is("10 kind", box.key(7), Due.NOT);
            Due.is("10 kind takes nothing", box.count(2), credits);
            Due.is("10 kind loses nothing", box.count(3), 0);
            box.set(0, 0);
            Due.is("10 unkind", box.key(7), credits - 1);
            Due.is("10 unkind takes", box.count(2), credits - 1);
            Due.is("10 unkind loses", box.count(3), 1);
            Due.is("10 the pin stays", box.song(7, 0), how == 2 ? 0 : 1);
            Due.is("10 how it is stays", box.song(7, 1), how);
        }
    }
}
