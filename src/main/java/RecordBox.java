/**
 * A box that plays records for coins: a rack of records, a pin for each side, and a carriage that
 * plays one side of all on its way up, the other on its way down.
 */
public final class RecordBox {
    public static final int BAD = -1, NOT = -2, FULL = -3, NONE = -4, NULL = -11, CAST = -12, INDEX = -13, SIZE = -14;

    private static final int RECORDS = 16, PLACES = 10, SONGS = 20, TOP = PLACES - 1;
    private static final int LONGEST_TIME = 60, MOST_WEAR = 99, METER_SIZE = 100;
    private static final int HIGHEST_PRICE = 99, HIGHEST_BARGAIN = 999, MOST_BARGAIN_SONGS = 20;
    private static final int HIGHEST_COIN = 99, HIGHEST_GROOVE = 99;
    private static final int MOST_TICKS = 2000, LAST_TICK = 1000000, MOST_EVENING_TICKS = 999;

    private static final int FREE = 0, STUCK_IN = 1, STUCK_OUT = 2;
    private static final int RESTS = 0, MOVES = 1, TURNS = 2, GRIPS = 3, PLAYS = 4, PUTS_BACK = 5;
    private static final int MOVE_TICKS = 3, TURN_TICKS = 2, ARM_TICKS = 4;
    private static final int LONGEST_STEP = 2 * LONGEST_TIME;

    /** Behind a song come its playing, its putting back, a look at each song and a grip: 23 steps at most. */
    private static final int SONGS_TOLD = 64, STEPS_TO_A_SONG = 24;
    /** With each pin gone out once, and one song gripped at the outset, all rests long before this. */
    private static final int STEPS_TO_REST = 1000;

    private static final int SHEETS = 4, LANES = 3, BYTES = 0, SHORTS = 1, SHEET_SIZE = 24;
    private static final int MOST_TIMES = 20, WIDEST_GAP = 999;

    private static final int TAPE_SIZE = 80, WORD_BYTES = 8, FIRST_SIGN = 32, LAST_SIGN = 126;
    private static final int FAULT = -20, NO_FAULT = 0, END = -1;
    /** The shortest act has two bytes. */
    private static final int MOST_ACTS = TAPE_SIZE / 2;
    private static final int KEY_ACT = 0, COIN_ACT = 1, TICKS_ACT = 2;

    private final Works works = new Works();
    private final Till till = new Till();
    private final Works keptWorks = new Works();
    private final Till keptTill = new Till();
    private boolean imageKept = false;
    private final Outlook outlook = new Outlook();
    private final Tape tape = new Tape();
    private final Sheet[] sheets = new Sheet[SHEETS];

    public RecordBox() {
        for (int i = 0; i < SHEETS; i++) {
            sheets[i] = new Sheet();
        }
    }

    private static boolean within(int v, int least, int most) {
        return v >= least && v <= most;
    }

    // ---- 1 records, pins, coins

    public int record(int a, int b) {
        if (!within(a, 1, LONGEST_TIME) || !within(b, 1, LONGEST_TIME)) {
            return BAD;
        }
        if (works.records >= RECORDS) {
            return FULL;
        }
        return works.addRecord(a, b);
    }

    public int change(int place, int record) {
        if (!within(place, 0, TOP) || !within(record, -1, works.records - 1)) {
            return BAD;
        }
        int held = works.placeOf(record);
        if (works.isOut(place) || (held != NONE && held != place)) {
            return NOT;
        }
        outlook.forget();
        int was = works.rack[place];
        works.rack[place] = record < 0 ? NONE : record;
        return was;
    }

    public int told(int record, int what) {
        if (!within(record, 0, works.records - 1)) {
            return BAD;
        }
        switch (what) {
            case 0:
            case 1:
                return works.times[2 * record + what];
            case 2:
            case 3:
                return works.wear[2 * record + what - 2];
            case 4:
                return works.placeOf(record);
            default:
                return BAD;
        }
    }

    public int song(int song, int what) {
        if (!within(song, 0, SONGS - 1)) {
            return BAD;
        }
        switch (what) {
            case 0:
                return works.isIn(song) ? 1 : 0;
            case 1:
                return works.howIs(song);
            case 2:
                return works.meters[song];
            case 3:
                return works.rack[song / 2];
            default:
                return BAD;
        }
    }

    public int stick(int song, int how) {
        if (!within(song, 0, SONGS - 1) || !within(how, FREE, STUCK_OUT)) {
            return BAD;
        }
        outlook.forget();
        int was = works.howIs(song);
        works.makePin(song, how);
        return was;
    }

    public int prices(int p, int q, int m) {
        if (!within(p, 1, HIGHEST_PRICE) || !within(q, p, HIGHEST_BARGAIN) || !within(m, 1, MOST_BARGAIN_SONGS)) {
            return BAD;
        }
        till.newPrices(p, q, m);
        return 1;
    }

    public int coin(int v) {
        if (!within(v, 1, HIGHEST_COIN)) {
            return BAD;
        }
        till.take(v);
        return till.credits;
    }

    public int set(int what, int v) {
        int was;
        switch (what) {
            case 0:
                if (!within(v, 0, 1)) {
                    return BAD;
                }
                was = till.kindness;
                till.kindness = v;
                return was;
            case 1:
                if (!within(v, 1, HIGHEST_GROOVE)) {
                    return BAD;
                }
                outlook.forget();
                was = works.groove;
                works.groove = v;
                return was;
            default:
                return BAD;
        }
    }

    public int key(int song) {
        if (!within(song, 0, SONGS - 1)) {
            return BAD;
        }
        if (till.credits < 1) {
            return NOT;
        }
        if (works.isIn(song) || works.howIs(song) != FREE) {
            return keyInVain();
        }
        outlook.forget();
        works.pinsIn |= 1 << song;
        till.credits--;
        return till.credits;
    }

    private int keyInVain() {
        if (till.kindness == 1) {
            return NOT;
        }
        till.credits--;
        till.lost++;
        return till.credits;
    }

    // ---- 2 the carriage

    public int ticks(int n) {
        if (!within(n, 1, MOST_TICKS)) {
            return BAD;
        }
        if (works.now > LAST_TICK - n) {
            return FULL;
        }
        outlook.forget();
        int ahead = n;
        for (int i = 0; i < n && ahead > 0; i++) {
            ahead -= works.pass(ahead);
        }
        return works.now;
    }

    public int carriage(int what) {
        switch (what) {
            case 0:
                return works.place;
            case 1:
                return works.up ? 1 : 0;
            case 2:
                return works.doing;
            case 3:
                return works.ticksLeft;
            default:
                return BAD;
        }
    }

    public int count(int what) {
        switch (what) {
            case 0:
                return works.records;
            case 1:
                return Integer.bitCount(works.pinsIn);
            case 2:
                return till.credits;
            case 3:
                return till.lost;
            case 4:
                return till.taken;
            case 5:
                return works.played;
            case 6:
                return works.misses;
            case 7:
                return works.now;
            case 8:
                return works.emptyPlaces();
            default:
                return BAD;
        }
    }

    // ---- 3 what would be (all stays as it is)

    public int next(int i) {
        if (!within(i, 0, SONGS_TOLD - 1)) {
            return BAD;
        }
        outlook.foresee(works);
        return i < outlook.told ? outlook.songs[i] : NONE;
    }

    public int when(int song) {
        if (!within(song, 0, SONGS - 1)) {
            return BAD;
        }
        outlook.foresee(works);
        return outlook.startOf(song);
    }

    public int done() {
        if (works.stuckIn != 0) {
            return NOT;
        }
        return outlook.doneBy(works, 0, 0);
    }

    public int better(int what) {
        if (!within(what, 0, 2)) {
            return BAD;
        }
        if (works.stuckIn != 0) {
            return NOT;
        }
        outlook.seekPair(works);
        if (what == 0) {
            return outlook.lesser;
        }
        return what == 1 ? outlook.other : outlook.soonest;
    }

    public int heard(int sheet, int lane, int from, int n, int g) {
        int refusal = wireRefusal(sheet, lane, from, n, g);
        if (refusal != 0) {
            return refusal;
        }
        int gap = sheets[sheet].onlyGap(from, n, g);
        return gap == NONE ? NONE : songOfPulses(gap + 1, n - gap);
    }

    public int mayBe(int sheet, int lane, int from, int n, int g) {
        int refusal = wireRefusal(sheet, lane, from, n, g);
        if (refusal != 0) {
            return refusal;
        }
        int gap = sheets[sheet].onlyGap(from, n, g);
        if (gap == NONE) {
            return NONE;
        }
        int ahead = gap + 1;
        int behind = n - gap;
        int bits = bitOfPulses(ahead, behind) | bitOfPulses(ahead + 1, behind) | bitOfPulses(ahead, behind + 1);
        return bits == 0 ? NONE : bits;
    }

    private int wireRefusal(int sheet, int lane, int from, int n, int g) {
        if (!isSheetOfLane(sheet, lane) || !within(n, 1, MOST_TIMES) || !within(g, 1, WIDEST_GAP)) {
            return BAD;
        }
        int refusal = sheets[sheet].refusalAs(lane);
        if (refusal != 0) {
            return refusal;
        }
        // from and n are not added: their sum may wrap.
        if (from < 0 || from > sheets[sheet].size - n) {
            return INDEX;
        }
        return sheets[sheet].areTimes(from, n) ? 0 : NOT;
    }

    private static int songOfPulses(int ahead, int behind) {
        if (!within(ahead, 1, PLACES) || !within(behind, 1, 2)) {
            return NONE;
        }
        return 2 * (ahead - 1) + behind - 1;
    }

    private static int bitOfPulses(int ahead, int behind) {
        int told = songOfPulses(ahead, behind);
        return told == NONE ? 0 : 1 << told;
    }

    public int type(long w, int n) {
        if (!within(n, 1, WORD_BYTES)) {
            return BAD;
        }
        for (int i = 0; i < n; i++) {
            if (!within(byteOf(w, i), FIRST_SIGN, LAST_SIGN)) {
                return BAD;
            }
        }
        if (tape.length > TAPE_SIZE - n) {
            return FULL;
        }
        for (int i = n - 1; i >= 0; i--) {
            tape.append(byteOf(w, i));
        }
        return tape.length;
    }

    private static int byteOf(long w, int i) {
        return (int) (w >>> (8 * i)) & 255;
    }

    public int evening() {
        int fault = tape.readActs();
        tape.length = 0;
        if (fault != NO_FAULT) {
            return fault;
        }
        for (int i = 0; i < tape.acts && i < MOST_ACTS; i++) {
            int kind = tape.kinds[i];
            int value = tape.values[i];
            int answer = kind == KEY_ACT ? key(value) : kind == COIN_ACT ? coin(value) : ticks(value);
            if (answer < 0) {
                return i;
            }
        }
        return tape.acts;
    }

    public int image() {
        keptWorks.copyFrom(works);
        keptTill.copyFrom(till);
        imageKept = true;
        return 1;
    }

    public int restore() {
        if (!imageKept) {
            return NONE;
        }
        outlook.forget();
        works.copyFrom(keptWorks);
        till.copyFrom(keptTill);
        return 1;
    }

    // ---- 4 sheets 0 .. 3: nothing (at first), or a row of a lane

    public int sheet(int sheet, int lane, int n) {
        if (!isSheetOfLane(sheet, lane) || n > SHEET_SIZE) {
            return BAD;
        }
        if (n < 0) {
            return SIZE;
        }
        sheets[sheet].hold(lane, n);
        return n;
    }

    public int drop(int sheet) {
        if (!within(sheet, 0, SHEETS - 1)) {
            return BAD;
        }
        if (sheets[sheet].lane == NONE) {
            return NULL;
        }
        sheets[sheet].lane = NONE;
        return sheets[sheet].size;
    }

    public int item(int sheet, int lane, int i, int v) {
        if (!isSheetOfLane(sheet, lane)) {
            return BAD;
        }
        int refusal = sheets[sheet].refusalAs(lane);
        if (refusal != 0) {
            return refusal;
        }
        if (i < 0 || i >= sheets[sheet].size) {
            return INDEX;
        }
        sheets[sheet].write(i, v);
        return 1;
    }

    private static boolean isSheetOfLane(int sheet, int lane) {
        return within(sheet, 0, SHEETS - 1) && within(lane, 0, LANES - 1);
    }

    /** The records, the rack, the pins and the carriage: all on which depends what would be. */
    private static final class Works {
        private int records = 0;
        /** Of side s of record r at 2 r and s; so is the wear. */
        private final int[] times = new int[2 * RECORDS];
        private final int[] wear = new int[2 * RECORDS];
        /** An empty place holds NONE, which is the answer that tells so. */
        private final int[] rack = new int[PLACES];
        private final int[] meters = new int[SONGS];
        /** A bit for each song; a pin stuck in is in, one stuck out is not. */
        private int pinsIn = 0;
        private int stuckIn = 0;
        private int stuckOut = 0;
        private int groove = HIGHEST_GROOVE;
        private int now = 0;
        private int place = 0;
        private boolean up = true;
        private int doing = RESTS;
        private int ticksLeft = 0;
        private int played = 0;
        private int misses = 0;

        Works() {
            for (int i = 0; i < PLACES; i++) {
                rack[i] = NONE;
            }
        }

        void copyFrom(Works other) {
            System.arraycopy(other.times, 0, times, 0, 2 * RECORDS);
            System.arraycopy(other.wear, 0, wear, 0, 2 * RECORDS);
            System.arraycopy(other.rack, 0, rack, 0, PLACES);
            System.arraycopy(other.meters, 0, meters, 0, SONGS);
            records = other.records;
            pinsIn = other.pinsIn;
            stuckIn = other.stuckIn;
            stuckOut = other.stuckOut;
            groove = other.groove;
            now = other.now;
            place = other.place;
            up = other.up;
            doing = other.doing;
            ticksLeft = other.ticksLeft;
            played = other.played;
            misses = other.misses;
        }

        int addRecord(int a, int b) {
            int added = records;
            times[2 * added] = a;
            times[2 * added + 1] = b;
            records++;
            return added;
        }

        int placeOf(int record) {
            for (int i = 0; i < PLACES; i++) {
                if (rack[i] == record) {
                    return i;
                }
            }
            return NONE;
        }

        int emptyPlaces() {
            int empty = 0;
            for (int i = 0; i < PLACES; i++) {
                if (rack[i] == NONE) {
                    empty++;
                }
            }
            return empty;
        }

        void swap(int onePlace, int otherPlace) {
            int moved = rack[onePlace];
            rack[onePlace] = rack[otherPlace];
            rack[otherPlace] = moved;
        }

        boolean isIn(int song) {
            return (pinsIn >> song & 1) == 1;
        }

        int howIs(int song) {
            if ((stuckIn >> song & 1) == 1) {
                return STUCK_IN;
            }
            return (stuckOut >> song & 1) == 1 ? STUCK_OUT : FREE;
        }

        void makePin(int song, int how) {
            int bit = 1 << song;
            stuckIn &= ~bit;
            stuckOut &= ~bit;
            if (how == STUCK_IN) {
                stuckIn |= bit;
                pinsIn |= bit;
            } else if (how == STUCK_OUT) {
                stuckOut |= bit;
                pinsIn &= ~bit;
            }
        }

        boolean isAsked(int somePlace) {
            return isIn(2 * somePlace) || isIn(2 * somePlace + 1);
        }

        boolean isOut(int somePlace) {
            return somePlace == place && doing >= GRIPS;
        }

        boolean isDone() {
            return doing == RESTS && pinsIn == 0;
        }

        int ownSong() {
            return up ? 2 * place : 2 * place + 1;
        }

        /** Ticks go by, at least one, at most so many, and none behind the first that changes what it does: how many. */
        int pass(int most) {
            if (isDone()) {
                now += most;
                return most;
            }
            if (doing == RESTS) {
                now++;
                look();
                return 1;
            }
            int gone = Math.min(most, ticksLeft);
            now += gone;
            ticksLeft -= gone;
            if (ticksLeft == 0) {
                endStep();
            }
            return gone;
        }

        private void endStep() {
            switch (doing) {
                case MOVES:
                    place = up ? Math.min(place + 1, TOP) : Math.max(place - 1, 0);
                    look();
                    break;
                case TURNS:
                    up = !up;
                    look();
                    break;
                case GRIPS:
                    play();
                    break;
                case PLAYS:
                    doing = PUTS_BACK;
                    ticksLeft = ARM_TICKS;
                    break;
                default:
                    goOn();
                    break;
            }
        }

        private void look() {
            int bit = 1 << ownSong();
            if ((pinsIn & bit) == 0) {
                goOn();
                return;
            }
            pinsIn &= ~bit | stuckIn;
            if (rack[place] == NONE) {
                misses++;
                goOn();
            } else {
                doing = GRIPS;
                ticksLeft = ARM_TICKS;
            }
        }

        private void goOn() {
            boolean atLastPlace = place == (up ? TOP : 0);
            if (pinsIn == 0) {
                doing = RESTS;
                ticksLeft = 0;
            } else {
                doing = atLastPlace ? TURNS : MOVES;
                ticksLeft = atLastPlace ? TURN_TICKS : MOVE_TICKS;
            }
        }

        private void play() {
            int record = rack[place];
            // A record that is out can't be changed, so one is there; the index is looked at all the same.
            if (!within(record, 0, RECORDS - 1)) {
                goOn();
                return;
            }
            int side = up ? 2 * record : 2 * record + 1;
            int song = ownSong();
            meters[song] = (meters[song] + 1) % METER_SIZE;
            wear[side] = Math.min(wear[side] + 1, MOST_WEAR);
            played++;
            doing = PLAYS;
            ticksLeft = wear[side] > groove ? 2 * times[side] : times[side];
        }
    }

    /** Prices, coins and credits. */
    private static final class Till {
        private int price = 10;
        private int bargain = 25;
        private int bargainSongs = 3;
        private int sum = 0;
        private int credits = 0;
        private int lost = 0;
        private int taken = 0;
        private int kindness = 1;

        void copyFrom(Till other) {
            price = other.price;
            bargain = other.bargain;
            bargainSongs = other.bargainSongs;
            sum = other.sum;
            credits = other.credits;
            lost = other.lost;
            taken = other.taken;
            kindness = other.kindness;
        }

        void newPrices(int p, int q, int m) {
            price = p;
            bargain = q;
            bargainSongs = m;
            sum = 0;
        }

        void take(int v) {
            int owedBefore = owed();
            sum += v;
            taken += v;
            credits += Math.max(0, owed() - owedBefore);
        }

        private int owed() {
            if (price < 1 || bargain < 1) {
                return 0;
            }
            return bargainSongs * (sum / bargain) + sum % bargain / price;
        }
    }

    /** What would be, found on a copy of the works, and kept till these change. */
    private static final class Outlook {
        private final Works trial = new Works();
        private final int[] songs = new int[SONGS_TOLD];
        private final int[] starts = new int[SONGS_TOLD];
        private int told = 0;
        private boolean songsKnown = false;
        private int lesser = NONE;
        private int other = NONE;
        private int soonest = NONE;
        private boolean pairKnown = false;

        void forget() {
            songsKnown = false;
            pairKnown = false;
        }

        void foresee(Works from) {
            if (songsKnown) {
                return;
            }
            songsKnown = true;
            told = 0;
            trial.copyFrom(from);
            int quiet = 0;
            // A pin stuck in at an empty place keeps the carriage going, but no song comes of it.
            for (int i = 0; i < SONGS_TOLD * STEPS_TO_A_SONG && told < SONGS_TOLD; i++) {
                if (trial.isDone() || quiet >= STEPS_TO_A_SONG) {
                    return;
                }
                int begun = trial.played;
                trial.pass(LONGEST_STEP);
                if (trial.played == begun) {
                    quiet++;
                } else {
                    quiet = 0;
                    songs[told] = trial.ownSong();
                    starts[told] = trial.now - from.now;
                    told++;
                }
            }
        }

        int startOf(int song) {
            for (int i = 0; i < told && i < SONGS_TOLD; i++) {
                if (songs[i] == song) {
                    return starts[i];
                }
            }
            return NONE;
        }

        /** By when all is done with the records of two places changed round; the same place twice: as it is. */
        int doneBy(Works from, int onePlace, int otherPlace) {
            trial.copyFrom(from);
            trial.swap(onePlace, otherPlace);
            for (int i = 0; i < STEPS_TO_REST && !trial.isDone(); i++) {
                trial.pass(LONGEST_STEP);
            }
            return trial.now - from.now;
        }

        void seekPair(Works from) {
            if (pairKnown) {
                return;
            }
            pairKnown = true;
            lesser = NONE;
            other = NONE;
            soonest = NONE;
            int best = doneBy(from, 0, 0);
            for (int a = 0; a < PLACES; a++) {
                for (int b = a + 1; b < PLACES; b++) {
                    int by = mayHelp(from, a, b) ? doneBy(from, a, b) : best;
                    if (by < best) {
                        best = by;
                        lesser = a;
                        other = b;
                        soonest = by;
                    }
                }
            }
        }

        /** Between two places at which nothing is asked a change makes no difference. */
        private static boolean mayHelp(Works from, int a, int b) {
            return !from.isOut(a) && !from.isOut(b) && (from.isAsked(a) || from.isAsked(b));
        }
    }

    /** The tape, and the acts that were read from it. */
    private static final class Tape {
        private final byte[] signs = new byte[TAPE_SIZE];
        private int length = 0;
        private int at = 0;
        private final int[] kinds = new int[MOST_ACTS];
        private final int[] values = new int[MOST_ACTS];
        private int acts = 0;

        void append(int sign) {
            if (length < TAPE_SIZE) {
                signs[length] = (byte) sign;
                length++;
            }
        }

        /** The first fault, or NO_FAULT. */
        int readActs() {
            at = 0;
            acts = 0;
            int fault = readAct();
            for (int i = 0; i < TAPE_SIZE && fault == NO_FAULT && peek() != END; i++) {
                fault = readAct();
            }
            return fault;
        }

        private int readAct() {
            int sign = peek();
            if (sign >= 'a' && sign <= 'j') {
                at++;
                return readSide(sign - 'a');
            }
            if (sign == '+') {
                at++;
                return readNumber(COIN_ACT, HIGHEST_COIN);
            }
            if (sign == 't') {
                at++;
                return readNumber(TICKS_ACT, MOST_EVENING_TICKS);
            }
            return FAULT - at;
        }

        private int readSide(int place) {
            int sign = peek();
            if (sign != '1' && sign != '2') {
                return FAULT - at;
            }
            at++;
            addAct(KEY_ACT, 2 * place + sign - '1');
            return NO_FAULT;
        }

        private int readNumber(int kind, int most) {
            peek();
            int first = at;
            int value = 0;
            while (at < length && at < TAPE_SIZE && signs[at] >= '0' && signs[at] <= '9') {
                // What is above all bounds stays so, and can't wrap.
                value = Math.min(10 * value + signs[at] - '0', MOST_EVENING_TICKS + 1);
                at++;
            }
            if (value < 1 || value > most) {
                return FAULT - first;
            }
            addAct(kind, value);
            return NO_FAULT;
        }

        /** The next sign that is no blank. */
        private int peek() {
            while (at < length && at < TAPE_SIZE && signs[at] == ' ') {
                at++;
            }
            return at < length && at < TAPE_SIZE ? signs[at] : END;
        }

        private void addAct(int kind, int value) {
            if (acts < MOST_ACTS) {
                kinds[acts] = kind;
                values[acts] = value;
                acts++;
            }
        }
    }

    /** A sheet; its lane is NONE while it holds nothing. */
    private static final class Sheet {
        private int lane = NONE;
        private int size = 0;
        private final int[] items = new int[SHEET_SIZE];

        void hold(int newLane, int n) {
            lane = newLane;
            size = n;
            for (int i = 0; i < SHEET_SIZE; i++) {
                items[i] = 0;
            }
        }

        /** Why it can't be taken as a row of a lane, or 0. */
        int refusalAs(int wanted) {
            if (lane == NONE) {
                return NULL;
            }
            return lane == wanted ? 0 : CAST;
        }

        void write(int i, int v) {
            if (lane == BYTES) {
                items[i] = (byte) v;
            } else if (lane == SHORTS) {
                items[i] = (short) v;
            } else {
                items[i] = v;
            }
        }

        boolean areTimes(int from, int n) {
            for (int i = 0; i < n; i++) {
                if (items[from + i] < 1) {
                    return false;
                }
            }
            return true;
        }

        /** How many times are ahead of the gap; NONE if there is not just one. */
        int onlyGap(int from, int n, int g) {
            int gap = NONE;
            for (int i = 0; i < n; i++) {
                if (items[from + i] >= g) {
                    if (gap != NONE) {
                        return NONE;
                    }
                    gap = i;
                }
            }
            return gap;
        }
    }
}
