import java.util.ArrayList;
import java.util.List;

/**
 * A run of calls as a text: "coin 25 = 3; key 0 x 2; key 20 = BAD; tape '+5 a1' = 5". Behind = stands the answer that is
 * due, behind x how often the call is made; MIN and MAX are the least and the greatest int; tape types a whole text.
 */
final class Calls {
    /** One call; its due is null where the run does not say it. */
    static final class Call {
        final String text;
        final String name;
        final long[] args;
        final String signs;
        final Integer due;

        private Call(String text, String name, long[] args, String signs, Integer due) {
            this.text = text;
            this.name = name;
            this.args = args;
            this.signs = signs;
            this.due = due;
        }

        private int arg(int i) {
            return Math.toIntExact(args[i]);
        }

        /** How many calls of the object it is. */
        int size() {
            return signs == null ? 1 : Math.max(1, (signs.length() + 7) / 8);
        }
    }

    private static final String NAMES = "BAD NOT FULL NONE NULL CAST INDEX SIZE MIN MAX";
    private static final long[] VALUES = {RecordBox.BAD, RecordBox.NOT, RecordBox.FULL, RecordBox.NONE, RecordBox.NULL,
        RecordBox.CAST, RecordBox.INDEX, RecordBox.SIZE, Integer.MIN_VALUE, Integer.MAX_VALUE};

    private Calls() {
    }

    static List<Call> read(String run) {
        List<Call> calls = new ArrayList<>();
        for (String part : run.split(";")) {
            if (!part.isBlank()) {
                readOne(part.strip(), calls);
            }
        }
        return calls;
    }

    private static void readOne(String part, List<Call> into) {
        String signs = null;
        String rest = part;
        if (part.startsWith("tape '")) {
            int end = part.lastIndexOf('\'');
            signs = part.substring(6, end);
            rest = "tape" + part.substring(end + 1);
        }
        int times = 1;
        Integer due = null;
        List<Long> args = new ArrayList<>();
        String[] words = rest.split(" +");
        for (int i = 1; i < words.length; i++) {
            if (words[i].equals("=")) {
                due = Math.toIntExact(number(words[++i]));
            } else if (words[i].equals("x")) {
                times = Math.toIntExact(number(words[++i]));
            } else {
                args.add(number(words[i]));
            }
        }
        long[] row = new long[args.size()];
        for (int i = 0; i < row.length; i++) {
            row[i] = args.get(i);
        }
        for (int i = 0; i < times; i++) {
            into.add(new Call(part, words[0], row, signs, due));
        }
    }

    private static long number(String word) {
        String[] names = NAMES.split(" ");
        for (int i = 0; i < names.length; i++) {
            if (names[i].equals(word)) {
                return VALUES[i];
            }
        }
        return Long.decode(word);
    }

    static int size(List<Call> calls) {
        int size = 0;
        for (Call call : calls) {
            size += call.size();
        }
        return size;
    }

    static RecordBox made(List<Call> calls) {
        RecordBox box = new RecordBox();
        for (Call call : calls) {
            answer(box, call);
        }
        return box;
    }

    static int answer(RecordBox x, Call c) {
        switch (c.name) {
            case "record": return x.record(c.arg(0), c.arg(1));
            case "change": return x.change(c.arg(0), c.arg(1));
            case "told": return x.told(c.arg(0), c.arg(1));
            case "song": return x.song(c.arg(0), c.arg(1));
            case "stick": return x.stick(c.arg(0), c.arg(1));
            case "prices": return x.prices(c.arg(0), c.arg(1), c.arg(2));
            case "coin": return x.coin(c.arg(0));
            case "set": return x.set(c.arg(0), c.arg(1));
            case "key": return x.key(c.arg(0));
            case "ticks": return x.ticks(c.arg(0));
            case "carriage": return x.carriage(c.arg(0));
            case "count": return x.count(c.arg(0));
            case "next": return x.next(c.arg(0));
            case "when": return x.when(c.arg(0));
            case "done": return x.done();
            case "better": return x.better(c.arg(0));
            default: return answerOfLater(x, c);
        }
    }

    private static int answerOfLater(RecordBox x, Call c) {
        switch (c.name) {
            case "heard": return x.heard(c.arg(0), c.arg(1), c.arg(2), c.arg(3), c.arg(4));
            case "mayBe": return x.mayBe(c.arg(0), c.arg(1), c.arg(2), c.arg(3), c.arg(4));
            case "type": return x.type(c.args[0], c.arg(1));
            case "tape": return typed(x, c.signs);
            case "evening": return x.evening();
            case "image": return x.image();
            case "restore": return x.restore();
            case "sheet": return x.sheet(c.arg(0), c.arg(1), c.arg(2));
            case "drop": return x.drop(c.arg(0));
            case "item": return x.item(c.arg(0), c.arg(1), c.arg(2), c.arg(3));
            default: throw new IllegalArgumentException("no call: " + c.text);
        }
    }

    /** In words of eight bytes, and one of what is left. */
    private static int typed(RecordBox x, String signs) {
        int length = 0;
        for (int from = 0; from < signs.length(); from += 8) {
            String word = signs.substring(from, Math.min(from + 8, signs.length()));
            long w = 0;
            for (int i = 0; i < word.length(); i++) {
                w = w << 8 | word.charAt(i);
            }
            length = x.type(w, word.length());
        }
        return length;
    }
}
