import java.util.ArrayList;
import java.util.Arrays;
import java.util.List;

/** The document a second time, as plainly as can be: every tick by itself, nothing kept that can be found anew. */
final class PlainBox {
    static final class Side {
        int time;
        int wear;
    }

    static final class Pin {
        boolean in;
        int how;
        int meter;
    }

    final List<Side[]> records = new ArrayList<>();
    final int[] rack = new int[10];
    final Pin[] pins = new Pin[20];
    int p = 10, q = 25, m = 3, s, credits, lost, coins, kindness = 1, groove = 99;
    int now, place, doing, left, played, misses;
    boolean up = true;
    String tape = "";
    PlainBox kept;
    final int[][] rows = new int[4][];
    final int[] lanes = new int[4];

    PlainBox() {
        Arrays.fill(rack, -1);
        for (int i = 0; i < 20; i++) {
            pins[i] = new Pin();
        }
    }

    private PlainBox copy() {
        PlainBox c = new PlainBox();
        c.take(this);
        return c;
    }

    private void take(PlainBox o) {
        records.clear();
        for (Side[] sides : o.records) {
            Side[] mine = {new Side(), new Side()};
            for (int i = 0; i < 2; i++) {
                mine[i].time = sides[i].time;
                mine[i].wear = sides[i].wear;
            }
            records.add(mine);
        }
        for (int i = 0; i < 10; i++) {
            rack[i] = o.rack[i];
        }
        for (int i = 0; i < 20; i++) {
            pins[i].in = o.pins[i].in;
            pins[i].how = o.pins[i].how;
            pins[i].meter = o.pins[i].meter;
        }
        p = o.p; q = o.q; m = o.m; s = o.s; credits = o.credits; lost = o.lost; coins = o.coins;
        kindness = o.kindness; groove = o.groove; now = o.now; place = o.place; doing = o.doing; left = o.left;
        played = o.played; misses = o.misses; up = o.up;
    }

    private static boolean no(long v, long least, long most) {
        return v < least || v > most;
    }

    int record(int a, int b) {
        if (no(a, 1, 60) || no(b, 1, 60)) return -1;
        if (records.size() == 16) return -3;
        Side[] sides = {new Side(), new Side()};
        sides[0].time = a;
        sides[1].time = b;
        records.add(sides);
        return records.size() - 1;
    }

    private int whereIs(int record) {
        for (int i = 0; i < 10; i++) if (rack[i] == record) return i;
        return -4;
    }

    private boolean out(int where) {
        return where == place && (doing == 3 || doing == 4 || doing == 5) && rack[where] >= 0;
    }

    private static int orNone(int record) {
        return record < 0 ? -4 : record;
    }

    int change(int where, int record) {
        if (no(where, 0, 9) || no(record, -1, records.size() - 1)) return -1;
        if (out(where)) return -2;
        if (record >= 0 && whereIs(record) >= 0 && whereIs(record) != where) return -2;
        int was = rack[where];
        rack[where] = record;
        return orNone(was);
    }

    int told(int record, int what) {
        if (no(record, 0, records.size() - 1) || no(what, 0, 4)) return -1;
        if (what == 4) return whereIs(record);
        Side side = records.get(record)[what % 2];
        return what < 2 ? side.time : side.wear;
    }

    int song(int song, int what) {
        if (no(song, 0, 19) || no(what, 0, 3)) return -1;
        return new int[] {pins[song].in ? 1 : 0, pins[song].how, pins[song].meter, orNone(rack[song / 2])}[what];
    }

    int stick(int song, int how) {
        if (no(song, 0, 19) || no(how, 0, 2)) return -1;
        int was = pins[song].how;
        pins[song].how = how;
        if (how == 1) pins[song].in = true;
        if (how == 2) pins[song].in = false;
        return was;
    }

    int prices(int np, int nq, int nm) {
        if (no(np, 1, 99) || no(nq, np, 999) || no(nm, 1, 20)) return -1;
        p = np;
        q = nq;
        m = nm;
        s = 0;
        return 1;
    }

    private int owes(int sum) {
        return sum / q * m + (sum - sum / q * q) / p;
    }

    int coin(int v) {
        if (no(v, 1, 99)) return -1;
        int more = owes(s + v) - owes(s);
        s += v;
        coins += v;
        if (more > 0) credits += more;
        return credits;
    }

    int set(int what, int v) {
        if (no(what, 0, 1) || what == 0 && no(v, 0, 1) || what == 1 && no(v, 1, 99)) return -1;
        int was = what == 0 ? kindness : groove;
        if (what == 0) kindness = v;
        else groove = v;
        return was;
    }

    int key(int song) {
        if (no(song, 0, 19)) return -1;
        if (credits == 0) return -2;
        if (!pins[song].in && pins[song].how == 0) {
            pins[song].in = true;
            return --credits;
        }
        if (kindness == 1) return -2;
        lost++;
        return --credits;
    }

    private int pinsIn() {
        int in = 0;
        for (Pin pin : pins) if (pin.in) in++;
        return in;
    }

    private void looks() {
        Pin pin = pins[place * 2 + (up ? 0 : 1)];
        if (pin.in) {
            if (pin.how == 0) pin.in = false;
            if (rack[place] >= 0) {
                doing = 3;
                left = 4;
                return;
            }
            misses++;
        }
        goesOn();
    }

    private void goesOn() {
        if (pinsIn() == 0) {
            doing = 0;
            left = 0;
        } else if (place == 9 && up || place == 0 && !up) {
            doing = 2;
            left = 2;
        } else {
            doing = 1;
            left = 3;
        }
    }

    /** The song that begins to play in this tick, or -1. */
    private int tick() {
        now++;
        if (doing == 0) {
            if (pinsIn() > 0) looks();
            return -1;
        }
        left--;
        if (left > 0) return -1;
        if (doing == 1) {
            place += up ? 1 : -1;
            looks();
        } else if (doing == 2) {
            up = !up;
            looks();
        } else if (doing == 3) {
            int song = place * 2 + (up ? 0 : 1);
            Side side = records.get(rack[place])[up ? 0 : 1];
            pins[song].meter = pins[song].meter == 99 ? 0 : pins[song].meter + 1;
            if (side.wear < 99) side.wear++;
            played++;
            doing = 4;
            left = side.wear > groove ? side.time * 2 : side.time;
            return song;
        } else if (doing == 4) {
            doing = 5;
            left = 4;
        } else {
            goesOn();
        }
        return -1;
    }

    int ticks(int n) {
        if (no(n, 1, 2000)) return -1;
        if (now + n > 1000000) return -3;
        for (int i = 0; i < n; i++) tick();
        return now;
    }

    int carriage(int what) {
        if (no(what, 0, 3)) return -1;
        return new int[] {place, up ? 1 : 0, doing, left}[what];
    }

    int count(int what) {
        if (no(what, 0, 8)) return -1;
        int empty = 0;
        for (int record : rack) if (record < 0) empty++;
        return new int[] {records.size(), pinsIn(), credits, lost, coins, played, misses, now, empty}[what];
    }

    /** Pairs of song and start; so long without a song that none can come ends it. */
    private List<int[]> wouldBe() {
        List<int[]> all = new ArrayList<>();
        PlainBox c = copy();
        int since = 0;
        for (int t = 1; all.size() < 64 && since < 1000; t++, since++) {
            int song = c.tick();
            if (song >= 0) {
                all.add(new int[] {song, t});
                since = 0;
            }
        }
        return all;
    }

    int next(int i) {
        if (no(i, 0, 63)) return -1;
        List<int[]> all = wouldBe();
        return i < all.size() ? all.get(i)[0] : -4;
    }

    int when(int song) {
        if (no(song, 0, 19)) return -1;
        for (int[] one : wouldBe()) if (one[0] == song) return one[1];
        return -4;
    }

    private boolean stuckIn() {
        for (Pin pin : pins) if (pin.how == 1) return true;
        return false;
    }

    private int restsBy() {
        PlainBox c = copy();
        int t = 0;
        while (c.doing != 0 || c.pinsIn() > 0) {
            c.tick();
            t++;
        }
        return t;
    }

    int done() {
        return stuckIn() ? -2 : restsBy();
    }

    int better(int what) {
        if (no(what, 0, 2)) return -1;
        if (stuckIn()) return -2;
        int[] best = {-4, -4, -4};
        int by = restsBy();
        for (int a = 0; a < 10; a++) {
            for (int b = a + 1; b < 10; b++) {
                if (out(a) || out(b)) continue;
                PlainBox c = copy();
                c.rack[a] = rack[b];
                c.rack[b] = rack[a];
                int then = c.restsBy();
                if (then < by) {
                    by = then;
                    best = new int[] {a, b, then};
                }
            }
        }
        return best[what];
    }

    private int why(int sheet, int lane) {
        if (rows[sheet] == null) return -11;
        return lanes[sheet] == lane ? 0 : -12;
    }

    /** A refusal, or 0 and the pulses of both groups; -4 stands for not just one gap. */
    private int listen(int[] call, int[] groups) {
        int sheet = call[0], lane = call[1], from = call[2], n = call[3], g = call[4];
        if (no(sheet, 0, 3) || no(lane, 0, 2) || no(n, 1, 20) || no(g, 1, 999)) return -1;
        if (why(sheet, lane) != 0) return why(sheet, lane);
        if (from < 0 || (long) from + n > rows[sheet].length) return -13;
        int gaps = 0;
        groups[0] = 1;
        groups[1] = 0;
        for (int i = from; i < from + n; i++) if (rows[sheet][i] < 1) return -2;
        for (int i = from; i < from + n; i++) {
            if (rows[sheet][i] >= g) gaps++;
            groups[gaps == 0 ? 0 : 1]++;
        }
        return gaps == 1 ? 0 : -4;
    }

    int heard(int sheet, int lane, int from, int n, int g) {
        int[] groups = new int[2];
        int why = listen(new int[] {sheet, lane, from, n, g}, groups);
        if (why != 0) return why;
        if (no(groups[0], 1, 10) || no(groups[1], 1, 2)) return -4;
        return 2 * (groups[0] - 1) + groups[1] - 1;
    }

    int mayBe(int sheet, int lane, int from, int n, int g) {
        int[] groups = new int[2];
        int why = listen(new int[] {sheet, lane, from, n, g}, groups);
        if (why != 0) return why;
        int bits = 0;
        for (int song = 0; song < 20; song++) {
            int lostAhead = song / 2 + 1 - groups[0];
            int lostBehind = song % 2 + 1 - groups[1];
            if (lostAhead >= 0 && lostBehind >= 0 && lostAhead + lostBehind <= 1) bits |= 1 << song;
        }
        return bits == 0 ? -4 : bits;
    }

    int type(long w, int n) {
        if (no(n, 1, 8)) return -1;
        String text = "";
        for (int i = 0; i < n; i++) {
            int sign = (int) Math.floorMod(w, 256L);
            w = Math.floorDiv(w, 256L);
            if (no(sign, 32, 126)) return -1;
            text = (char) sign + text;
        }
        if (tape.length() + n > 80) return -3;
        tape += text;
        return tape.length();
    }

    private int skip(int i, String text) {
        while (i < text.length() && text.charAt(i) == ' ') i++;
        return i;
    }

    int evening() {
        String text = tape;
        tape = "";
        List<int[]> acts = new ArrayList<>();
        int i = skip(0, text);
        do {
            if (i == text.length()) return -20 - i;
            char c = text.charAt(i);
            if (c != '+' && c != 't' && (c < 'a' || c > 'j')) return -20 - i;
            i = skip(i + 1, text);
            int first = i;
            while (i < text.length() && Character.isDigit(text.charAt(i))) {
                i++;
                if (c != '+' && c != 't') break;
            }
            String digits = text.substring(first, i).replaceFirst("^0+(?=.)", "");
            int number = digits.isEmpty() ? 0 : digits.length() > 3 ? 1000 : Integer.parseInt(digits);
            if (no(number, 1, c == '+' ? 99 : c == 't' ? 999 : 2)) return -20 - first;
            acts.add(new int[] {c, number});
            i = skip(i, text);
        } while (i < text.length());
        for (int k = 0; k < acts.size(); k++) {
            int c = acts.get(k)[0];
            int number = acts.get(k)[1];
            int answer = c == '+' ? coin(number) : c == 't' ? ticks(number) : key(2 * (c - 'a') + number - 1);
            if (answer < 0) return k;
        }
        return acts.size();
    }

    int image() {
        kept = copy();
        return 1;
    }

    int restore() {
        if (kept == null) return -4;
        take(kept);
        return 1;
    }

    int sheet(int sheet, int lane, int n) {
        if (no(sheet, 0, 3) || no(lane, 0, 2) || n > 24) return -1;
        if (n < 0) return -14;
        rows[sheet] = new int[n];
        lanes[sheet] = lane;
        return n;
    }

    int drop(int sheet) {
        if (no(sheet, 0, 3)) return -1;
        if (rows[sheet] == null) return -11;
        int had = rows[sheet].length;
        rows[sheet] = null;
        return had;
    }

    int item(int sheet, int lane, int i, int v) {
        if (no(sheet, 0, 3) || no(lane, 0, 2)) return -1;
        if (why(sheet, lane) != 0) return why(sheet, lane);
        if (no(i, 0, rows[sheet].length - 1)) return -13;
        rows[sheet][i] = lane == 0 ? (byte) v : lane == 1 ? (short) v : v;
        return 1;
    }
}
