import java.util.ArrayList;
import java.util.List;

/**
 * A run of calls on one object, under the sentence of the document that it tests. What a call has
 * changed or left is looked at on other objects with the same calls behind them, so that the looking
 * changes nothing here, and no object is asked more often than the document speaks of.
 */
final class Run {
    /** Ways to bring to light what no query tells: the settings, the history, the snapshot, the text. */
    private static final String[] WAYS = {"", "undo", "undo; undo", "undo; undo; undo", "undo; undo; undo; undo",
        "undo; undo; undo; undo; undo", "undo; undo; undo; undo; undo; undo", "restore", "perform",
        "type 59; type 110; fault; perform", "clearText"};

    private final Check check;
    private final String sentence;
    private final List<String> calls = new ArrayList<>();
    private Told told = new Told();
    private List<Look> looks = null;

    Run(Check check, String sentence) {
        this.check = check;
        this.sentence = sentence;
    }

    /** Another run that begins with the calls of this one. */
    Run again(String itsSentence) {
        Run other = new Run(check, itsSentence);
        for (String call : calls) {
            other.made(call);
        }
        return other;
    }

    /** Calls, parted by ";", of which no one may be refused. */
    Run made(String some) {
        for (String call : parts(some)) {
            double answer = make(call);
            if (answer < 0 && answer != LendingDisk.NONE) {
                check.due(sentence + ": " + call + " is no error", 0, answer);
            }
        }
        return this;
    }

    /** The text's characters, each of them typed. */
    Run typed(String text) {
        return made(typing(text));
    }

    /** The calls that type the text's characters. */
    static String typing(String text) {
        StringBuilder some = new StringBuilder();
        for (int i = 0; i < text.length(); i++) {
            some.append(i > 0 ? "; " : "").append("type ").append((int) text.charAt(i));
        }
        return some.toString();
    }

    Run due(String call, double want) {
        check.due(sentence + ": " + call, want, make(call));
        return this;
    }

    /** The same answer to the call with each of the numbers from the first to the last in the place of "#". */
    Run dueFrom(int first, int last, String call, double want) {
        for (int number = first; number <= last; number++) {
            due(call.replace("#", String.valueOf(number)), want);
        }
        return this;
    }

    /** A call that is refused, or a query: the answer is due, and all is as before. */
    Run dueUnchanged(String call, double want) {
        Told other = after("");
        check.due(sentence + ": " + call, want, other.answer(call));
        if (looks == null) {
            looks = allLooks("");
        }
        compare(call + " changes nothing", looks, allLooks(call));
        return this;
    }

    /** The queries of what would be answer here what the others answer on an object with the same calls. */
    Run sameAnswers(String[] here, String[] there) {
        Told other = after("");
        for (int i = 0; i < here.length; i++) {
            due(here[i], other.answer(there[i]));
        }
        return this;
    }

    /** All that there is, the history too, is as it would be after the other calls. */
    Run isAsAfter(String other) {
        Run wanted = new Run(check, sentence).made(other);
        compare("all as after the other calls", wanted.allLooks(""), allLooks(""));
        return this;
    }

    /** The state, without the history, is as it would be after the other calls. */
    Run stateIsAsAfter(String other) {
        Run wanted = new Run(check, sentence).made(other);
        compare("the state as after the other calls", wanted.stateLooks(), stateLooks());
        return this;
    }

    private static String[] parts(String some) {
        return some.isEmpty() ? new String[0] : some.split("; ");
    }

    private double make(String call) {
        calls.add(call);
        looks = null;
        return told.answer(call);
    }

    private Told after(String more) {
        Told other = new Told();
        for (String call : calls) {
            other.answer(call);
        }
        for (String call : parts(more)) {
            other.answer(call);
        }
        return other;
    }

    private List<Look> allLooks(String more) {
        List<Look> all = new ArrayList<>();
        for (String way : WAYS) {
            String behind = more.isEmpty() || way.isEmpty() ? more + way : more + "; " + way;
            all.add(new Look(way, blockQueries(), after(behind)));
            all.add(new Look(way, otherQueries(), after(behind)));
            all.add(new Look(way, ownQueries(), after(behind)));
        }
        return all;
    }

    private List<Look> stateLooks() {
        return List.of(new Look("", blockQueries(), after("")), new Look("", otherQueries(), after("")));
    }

    private void compare(String what, List<Look> want, List<Look> got) {
        for (int i = 0; i < want.size(); i++) {
            want.get(i).compare(check, sentence + ": " + what, got.get(i));
        }
    }

    /** What an object answers to the queries, once it has made the calls of the way. */
    private static final class Look {
        private final String way;
        private final List<String> queries;
        private final double[] answers;

        Look(String way, List<String> queries, Told told) {
            this.way = way;
            this.queries = queries;
            answers = new double[queries.size()];
            for (int i = 0; i < answers.length; i++) {
                answers[i] = told.answer(queries.get(i));
            }
        }

        void compare(Check check, String what, Look got) {
            String behind = way.isEmpty() ? "" : " behind " + way;
            for (int i = 0; i < answers.length; i++) {
                check.due(what + ", " + queries.get(i) + behind, answers[i], got.answers[i]);
            }
        }
    }

    private static List<String> blockQueries() {
        List<String> all = new ArrayList<>();
        for (int block = 0; block < 64; block++) {
            for (int what = 0; what < 4; what++) {
                all.add("block " + block + " " + what);
            }
        }
        return all;
    }

    /** What belongs to the state but the blocks; the settings come last, as asking for them changes them. */
    private static List<String> otherQueries() {
        List<String> all = new ArrayList<>();
        for (int file = 0; file < 8; file++) {
            for (int what = 0; what < 6; what++) {
                all.add("file " + file + " " + what);
            }
            all.add("extent " + file + " 0 1");
            all.add("room " + file);
            all.add("ifAppended " + file + " 1 2");
            all.add("read " + file + " 0 64 0");
        }
        for (int what = 0; what < 9; what++) {
            all.add("count " + what);
        }
        for (int what = 0; what < 4; what++) {
            all.add("total " + what);
        }
        all.add("wholeness");
        all.add("set 0 8");
        all.add("set 1 0");
        return all;
    }

    /** What does not belong to the state. */
    private static List<String> ownQueries() {
        return List.of("count 9", "count 10", "fault");
    }
}
