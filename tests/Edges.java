import java.util.ArrayList;
import java.util.Arrays;
import java.util.List;
import java.util.Set;
import java.util.TreeSet;

/**
 * Holds calls at the edges that the document names: what they answer, and what they leave as it was.
 * Each call is made on new objects that were brought to the given state before.
 */
final class Edges {
    static final int NO_SUCH = -1;
    static final int BAD_VALUE = -2;
    static final int NOT_POSSIBLE = -3;
    static final int LIMIT = -4;
    static final int BAD_TEXT = -5;
    static final int NONE = -6;
    static final int[] SIZES = {4, 8, 12, 16};

    private static final int MOST_RECORDED = 5;

    private final Check check = new Check();
    private final Set<Integer> promises = new TreeSet<>();
    private String sentence = "";
    private List<String> steps = List.of();
    private String everythingGiven = null;

    /** Names the sentence of the document that the next calls hold. */
    void promise(int number, String words) {
        promises.add(number);
        sentence = "promise " + number + ", " + words + ": ";
    }

    /** Brings the objects of the next calls to a state; none of these steps may fail. */
    void given(String... words) {
        steps = Arrays.asList(words);
        everythingGiven = null;
        Words x = new Words();
        for (String step : steps) {
            if (isError(x.call(step))) {
                check.same(about(step), "a step that failed", "");
            }
        }
    }

    /** Several steps as one list: each of them a word list of its own or a string. */
    static String[] steps(Object... parts) {
        List<String> all = new ArrayList<>();
        for (Object part : parts) {
            if (part instanceof String[]) {
                all.addAll(Arrays.asList((String[]) part));
            } else {
                all.add((String) part);
            }
        }
        return all.toArray(new String[0]);
    }

    static String[] times(int number, String step) {
        String[] all = new String[number];
        Arrays.fill(all, step);
        return all;
    }

    /** The call answers this error code and changes nothing. */
    void refused(String call, int code) {
        check.due(about(call), after().call(call), code);
        unchanged(call);
    }

    /** A question: the call answers so and changes nothing. */
    void asked(String call, long want) {
        check.due(about(call), after().call(call), want);
        unchanged(call);
    }

    /** An undoable call: it answers so, and undo() brings back the state ahead of it. */
    void taken(String call, long want) {
        int recorded = recorded(after());
        Words x = after();
        check.due(about(call), x.call(call), want);
        check.due(about(call) + ", undo", x.call("undo"), Math.min(recorded, MOST_RECORDED - 1));
        check.same(about(call) + ", the state after undo", x.state(), after().state());
    }

    /** A call of the buffer or of the saved state: it answers so, changes no state and records none. */
    void apart(String call, long want) {
        check.due(about(call), after().call(call), want);
        check.same(about(call) + ", the state", after(call).state(), after().state());
        check.due(about(call) + ", recorded states", recorded(after(call)), recorded(after()));
    }

    /** What stands in a bracelet after the call. */
    void leaves(String call, int bracelet, String slots) {
        check.same(about(call) + ", bracelet " + bracelet, after(call).slots(bracelet), slots);
    }

    /** What the motif is after the call. */
    void leavesMotif(String call, String signs) {
        check.same(about(call) + ", the motif", after(call).motif(), signs);
    }

    /** The state after the call is that of another run of calls on a new object. */
    void leavesState(String call, String... asAfter) {
        Words other = new Words();
        for (String step : asAfter) {
            other.call(step);
        }
        check.same(about(call) + ", the state", after(call).state(), other.state());
    }

    /** The argument at the question mark may be from the least to the most; what is outside answers the code. */
    void range(String call, int least, int most, int code) {
        for (int inside : new int[] {least, most}) {
            String words = call.replace("?", "" + inside);
            check.due(about(words) + " fails", isError(after().call(words)) ? 1 : 0, 0);
        }
        outside(call, code, "" + (least - 1), "" + (most + 1));
    }

    /** Each of these arguments, and each that is far away, answers the code. */
    void outside(String call, int code, String... arguments) {
        for (String argument : steps(arguments, "-100", "100", "MIN", "MAX")) {
            refused(call.replace("?", argument), code);
        }
    }

    /** The bracelets 0 to 5 are there: the number at the question mark may be any of theirs; and not if removed. */
    void rangeOfBracelets(String call, String text) {
        String[] six = steps("fill 1 99", times(6, "ring " + text));
        given(six);
        for (int b = 0; b < 6; b++) {
            String words = call.replace("?", "" + b);
            check.due(about(words) + " fails", isError(after().call(words)) ? 1 : 0, 0);
        }
        outside(call, NO_SUCH, "-1", "6");
        for (int b = 0; b < 6; b++) {
            given(steps(six, "remove " + b));
            refused(call.replace("?", "" + b), NO_SUCH);
        }
        given();
        refused(call.replace("?", "0"), NO_SUCH);
    }

    void due(String what, long got, long want) {
        check.due(sentence + what, got, want);
    }

    /** Each promise from the first to the last has an edge here. */
    void finish(int last) {
        for (int number = 1; number <= last; number++) {
            check.due("edges of promise " + number, promises.contains(number) ? 1 : 0, 1);
        }
        check.finish();
    }

    /** A new object in the given state, after some calls more. */
    Words after(String... more) {
        Words x = new Words();
        for (String step : steps) {
            x.call(step);
        }
        for (String step : more) {
            x.call(step);
        }
        return x;
    }

    private String about(String call) {
        return sentence + steps + " " + call;
    }

    private static boolean isError(long answer) {
        return answer < 0 && answer > NONE;
    }

    private static int recorded(Words x) {
        int recorded = 0;
        while (x.call("undo") >= 0) {
            recorded++;
        }
        return recorded;
    }

    private void unchanged(String call) {
        if (everythingGiven == null) {
            everythingGiven = everything();
        }
        check.same(about(call) + ", everything after it", everything(call), everythingGiven);
    }

    /** The state, the recorded states, the saved state, and what can be known of the buffer. */
    private String everything(String... more) {
        StringBuilder text = new StringBuilder();
        for (int undone = 0; undone <= MOST_RECORDED; undone++) {
            Words x = after(more);
            for (int i = 0; i < undone; i++) {
                text.append("undo ").append(x.call("undo")).append(' ');
            }
            text.append(x.state()).append('\n');
        }
        Words restored = after(more);
        text.append("restore ").append(restored.call("restore")).append(' ').append(restored.state()).append('\n');
        Words buffer = after(more);
        text.append("buffer ").append(buffer.call("errorPosition")).append(' ');
        text.append(buffer.call("clearText")).append('\n');
        Words read = after(more);
        for (int k = 1; k <= 5; k++) {
            read.call("fill " + k + " 50");
        }
        read.call("remove 5");
        text.append("read ").append(read.call("read")).append(' ').append(read.state());
        return text.toString();
    }
}
