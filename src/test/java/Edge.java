import java.util.ArrayList;
import java.util.HashMap;
import java.util.List;
import java.util.Map;

/**
 * One sentence of the document that names an edge, held against runs of calls. Behind each refused call all that other
 * calls tell is held against what they tell without it: a refusal changes nothing.
 */
final class Edge {
    /** An object is promised to answer so many calls. */
    private static final int MOST_CALLS = 512;

    private static final List<Calls.Call> QUESTIONS = Calls.read(questions() + sheetQuestions());
    /** What changes the box may tell what no question tells: prices and their sum, kindness, the tape, the image. */
    private static final List<List<Calls.Call>> TAILS = tails();
    private static final Map<String, List<Integer>> KNOWN = new HashMap<>();

    private Edge() {
    }

    private static String questions() {
        StringBuilder text = new StringBuilder();
        text.append("done;");
        for (int i = 0; i < 80; i++) {
            text.append(i < 9 ? "count " + i + ";" : "").append(i < 4 ? "carriage " + i + ";" : "").append(i < 3 ? "better " + i + ";" : "");
            text.append("told " + i / 5 + " " + i % 5 + ";").append("song " + i / 4 + " " + i % 4 + ";");
            text.append(i < 20 ? "when " + i + ";" : "").append(i < 64 ? "next " + i + ";" : "");
        }
        return text.toString();
    }

    private static String sheetQuestions() {
        StringBuilder text = new StringBuilder();
        for (int sheet = 0; sheet < 4; sheet++) {
            for (int lane = 0; lane < 3; lane++) {
                for (int i = 0; i < 24; i++) {
                    for (int g : new int[] {1, 60, 999}) {
                        text.append("heard " + sheet + " " + lane + " " + i + " 1 " + g + ";");
                    }
                }
            }
        }
        return text.toString();
    }

    private static List<List<Calls.Call>> tails() {
        String few = "; count 0; count 1; count 2; count 3; count 4; count 5; count 6; count 7; count 8"
            + "; carriage 0; carriage 1; carriage 2; carriage 3; done; next 0; next 1";
        String[] texts = {
            "set 0 1; set 1 99; record 1 1; drop 0; drop 1; drop 2; drop 3", "type 32 1; evening" + few, "evening" + few,
            "coin 1 x 60", "coin 99 x 8", "ticks 1" + few, "ticks 2" + few, "ticks 60" + few, "ticks 700" + few,
            "restore" + few, "restore; set 0 1; set 1 99; record 1 1", "restore; coin 1 x 60", "restore; ticks 60" + few,
            "restore;" + questions(), "ticks 300;" + questions()};
        List<List<Calls.Call>> all = new ArrayList<>();
        for (String text : texts) {
            all.add(Calls.read(text));
        }
        for (int song = 0; song < 20; song++) {
            all.add(Calls.read("key " + song + few));
        }
        return all;
    }

    /** A call with each of these numbers in the place of #, all with the same answer. */
    static String each(String call, String numbers, String due) {
        StringBuilder run = new StringBuilder();
        for (String number : numbers.split(" ")) {
            run.append("; ").append(call.replace("#", number)).append(" = ").append(due);
        }
        return run.append("; ").toString();
    }

    /** Ten records of these times, each in the place of its number. */
    static String rack(int a, int b) {
        StringBuilder run = new StringBuilder();
        for (int i = 0; i < 10; i++) {
            run.append("record ").append(a).append(' ').append(b).append("; change ").append(i).append(' ').append(i).append("; ");
        }
        return run.toString();
    }

    /** The answers that the run names are due, and what it refuses changes nothing. */
    static void holds(String sentence, String run) {
        List<Calls.Call> calls = Calls.read(run);
        Due.is(sentence + ": calls beyond " + MOST_CALLS, Math.max(0, Calls.size(calls) - MOST_CALLS), 0);
        RecordBox box = new RecordBox();
        for (int i = 0; i < calls.size(); i++) {
            Calls.Call call = calls.get(i);
            int answer = Calls.answer(box, call);
            if (call.due == null) {
                continue;
            }
            Due.is(sentence + ": [" + i + "] " + call.text, answer, call.due);
            if (isRefusal(call)) {
                same(sentence + ": [" + i + "] " + call.text, calls.subList(0, i + 1), calls.subList(0, i));
            }
        }
    }

    /** Into an empty place a record comes with NONE; a faulty evening empties the tape: these are no refusals. */
    private static boolean isRefusal(Calls.Call call) {
        return call.due < 0 && !call.name.equals("evening") && !(call.name.equals("change") && call.due == RecordBox.NONE);
    }

    /** Behind both runs all calls tell the same. */
    static void sameBehind(String sentence, String run, String other) {
        same(sentence, Calls.read(run), Calls.read(other));
    }

    private static void same(String what, List<Calls.Call> run, List<Calls.Call> other) {
        int left = MOST_CALLS - Math.max(Calls.size(run), Calls.size(other));
        Due.is(what + ": no call is left to tell anything", left > 0 ? 0 : 1, 0);
        // Few sizes of room, so that what one comparison found serves the next.
        int room = Math.max(1, Integer.highestOneBit(Math.max(1, left)));
        List<Integer> got = allTold(run, room);
        List<Integer> want = allTold(other, room);
        int differ = 0;
        while (differ < got.size() && got.get(differ).equals(want.get(differ))) {
            differ++;
        }
        boolean alike = differ == got.size();
        Due.is(what + ", then all that is told, answer " + differ, alike ? 0 : got.get(differ), alike ? 0 : want.get(differ));
    }

    private static List<Integer> allTold(List<Calls.Call> run, int room) {
        StringBuilder key = new StringBuilder().append(room);
        for (Calls.Call call : run) {
            key.append(';').append(call.text);
        }
        return KNOWN.computeIfAbsent(key.toString(), text -> tell(run, room));
    }

    private static List<Integer> tell(List<Calls.Call> run, int room) {
        List<Integer> answers = new ArrayList<>();
        for (int from = 0; from < QUESTIONS.size(); from += room) {
            ask(run, QUESTIONS, from, room, answers);
        }
        for (List<Calls.Call> tail : TAILS) {
            ask(run, tail, 0, room, answers);
        }
        return answers;
    }

    /** On a new box: the run, then so many questions. */
    private static void ask(List<Calls.Call> run, List<Calls.Call> questions, int from, int room, List<Integer> answers) {
        RecordBox box = Calls.made(run);
        for (int i = from; i < from + room && i < questions.size(); i++) {
            answers.add(Calls.answer(box, questions.get(i)));
        }
    }
}
