import java.util.Random;

/** All promises: runs of calls, drawn by a fixed seed, on a RecordBox and on a PlainBox, held against each other. */
public final class PlainBoxTest {
    private static final int RUNS = 4000;
    /** An object answers 512 calls; one step makes at most 34. */
    private static final int LAST_STEP_FROM = 512 - 34;
    private static final int[] STRANGE = {-1, 0, 1, 99, 100, 1000, Integer.MIN_VALUE, Integer.MAX_VALUE};
    private static final String SIGNS = "abcdefghijt+0123456789  12121212ttt+++k";

    private final Random random;
    private final RecordBox box = new RecordBox();
    private final PlainBox plain = new PlainBox();
    private final int run;
    private int calls = 0;

    private PlainBoxTest(int run) {
        this.run = run;
        this.random = new Random(run);
    }

    public static void main(String[] args) {
        for (int run = 0; run < RUNS; run++) {
            new PlainBoxTest(run).go();
        }
        Due.end();
    }

    /** Mostly a number of the range, at times one beside it or far off. */
    private int of(int least, int most) {
        int luck = random.nextInt(60);
        if (luck == 0) return least - 1;
        if (luck == 1) return most + 1;
        if (luck == 2) return STRANGE[random.nextInt(STRANGE.length)];
        if (luck < 6) return random.nextBoolean() ? least : most;
        return least + random.nextInt(most - least + 1);
    }

    private void due(String text, long got, long want) {
        calls++;
        Due.is("run " + run + ", " + text, got, want);
    }

    private void go() {
        if (run % 3 != 0) {
            furnish();
        }
        boolean sticky = run % 4 == 0;
        while (calls <= LAST_STEP_FROM) {
            step(random.nextInt(100), sticky);
        }
    }

    private void furnish() {
        for (int i = 0; i < 12; i++) {
            int a = 1 + random.nextInt(60);
            int b = 1 + random.nextInt(60);
            due("record", box.record(a, b), plain.record(a, b));
            if (i < 10 && random.nextInt(6) > 0) {
                due("change", box.change(i, i), plain.change(i, i));
            }
        }
        due("groove", box.set(1, 1 + run % 5), plain.set(1, 1 + run % 5));
    }

    private void step(int luck, boolean sticky) {
        if (luck < 30) {
            ask();
        } else if (luck < 45) {
            int song = of(0, 19);
            due("key " + song, box.key(song), plain.key(song));
        } else if (luck < 55) {
            int v = of(1, 99);
            due("coin " + v, box.coin(v), plain.coin(v));
        } else if (luck < 70) {
            int n = random.nextInt(3) > 0 ? of(1, 30) : of(1, 2000);
            due("ticks " + n, box.ticks(n), plain.ticks(n));
        } else if (luck < 76) {
            int place = of(0, 9);
            int record = of(-1, 15);
            due("change " + place + " " + record, box.change(place, record), plain.change(place, record));
        } else if (luck < 80) {
            int song = of(0, 19);
            int how = sticky ? of(0, 2) : random.nextInt(3) == 0 ? 2 : 0;
            due("stick " + song + " " + how, box.stick(song, how), plain.stick(song, how));
        } else if (luck < 86) {
            evening();
        } else if (luck < 94) {
            wire();
        } else {
            seldom();
        }
    }

    private void ask() {
        int i = of(0, 19);
        int what = of(0, 4);
        switch (random.nextInt(9)) {
            case 0: due("told " + i + " " + what, box.told(i, what), plain.told(i, what)); break;
            case 1: due("song " + i + " " + what, box.song(i, what), plain.song(i, what)); break;
            case 2: due("carriage " + what, box.carriage(what), plain.carriage(what)); break;
            case 3: due("count " + i, box.count(i), plain.count(i)); break;
            case 4: due("when " + i, box.when(i), plain.when(i)); break;
            case 5: due("done", box.done(), plain.done()); break;
            case 6:
                int some = of(0, 63);
                due("next " + some, box.next(some), plain.next(some));
                due("next " + i, box.next(i), plain.next(i));
                break;
            case 7: due("better " + what, box.better(what), plain.better(what)); break;
            default:
                int part = random.nextInt(9);
                due("count " + part, box.count(part), plain.count(part));
                break;
        }
    }

    private void evening() {
        int words = random.nextInt(6);
        for (int k = 0; k < words; k++) {
            int n = of(1, 8);
            long w = 0;
            for (int i = 0; i < 8; i++) {
                w = w << 8 | (random.nextInt(200) == 0 ? random.nextInt(256) : SIGNS.charAt(random.nextInt(SIGNS.length())));
            }
            if (random.nextBoolean()) {
                String[] acts = {"a1", "b2", "+9", "t5", "j2", "g1", "+25", "t99", " ", "h2"};
                StringBuilder text = new StringBuilder();
                while (text.length() < 8) {
                    text.append(acts[random.nextInt(acts.length)]);
                }
                for (int i = 0; i < 8; i++) {
                    w = w << 8 | text.charAt(i);
                }
            }
            due("type " + w + " " + n, box.type(w, n), plain.type(w, n));
        }
        due("evening", box.evening(), plain.evening());
    }

    private void wire() {
        int sheet = of(0, 3);
        int lane = random.nextInt(4) == 0 ? of(0, 2) : Math.floorMod(sheet, 3);
        if (random.nextInt(3) > 0) {
            int n = of(0, 24);
            due("sheet " + sheet + " " + lane + " " + n, box.sheet(sheet, lane, n), plain.sheet(sheet, lane, n));
            int gap = random.nextInt(14);
            for (int i = 0; i < 24; i++) {
                int v = i == gap || random.nextInt(30) == 0 ? 60 : random.nextInt(60) == 0 ? random.nextInt() : 1 + random.nextInt(50);
                due("item " + i + " " + v, box.item(sheet, lane, i, v), plain.item(sheet, lane, i, v));
            }
        }
        for (int k = 0; k < 4; k++) {
            int from = random.nextBoolean() ? 0 : of(0, 24);
            int n = of(1, 14);
            int g = random.nextInt(3) > 0 ? 55 : of(1, 999);
            String text = sheet + " " + lane + " " + from + " " + n + " " + g;
            due("heard " + text, box.heard(sheet, lane, from, n, g), plain.heard(sheet, lane, from, n, g));
            due("mayBe " + text, box.mayBe(sheet, lane, from, n, g), plain.mayBe(sheet, lane, from, n, g));
        }
        if (random.nextInt(5) == 0) {
            due("drop " + sheet, box.drop(sheet), plain.drop(sheet));
        }
    }

    private void seldom() {
        switch (random.nextInt(5)) {
            case 0:
                int a = of(1, 60);
                int b = of(1, 60);
                due("record " + a + " " + b, box.record(a, b), plain.record(a, b));
                break;
            case 1:
                int p = of(1, 40);
                int q = of(1, 150);
                int m = of(1, 20);
                due("prices " + p + " " + q + " " + m, box.prices(p, q, m), plain.prices(p, q, m));
                break;
            case 2:
                int what = of(0, 1);
                int v = what == 0 ? of(0, 1) : of(1, 9);
                due("set " + what + " " + v, box.set(what, v), plain.set(what, v));
                break;
            case 3: due("image", box.image(), plain.image()); break;
            default: due("restore", box.restore(), plain.restore()); break;
        }
    }
}
