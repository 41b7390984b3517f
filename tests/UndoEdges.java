/** The edges of promises 39 to 41 and of what the terms say of undo: which calls record, and how many states. */
final class UndoEdges {
    /** Calls that are undoable and change something after these steps. */
    private static final String[] STEPS = {"ring ab-c8-", "ring 2a-d", "sign 0 1", "note 1", "fill 3 0"};
    private static final String[] UNDOABLE = {"fill 1 99", "weigh 2 50", "make 16", "copy 1", "remove 0", "hang 0 11 5",
        "takeOff 0 0", "swap 0 0 11", "roll 0 5", "turn 0 2", "mirror 0", "setMotif 0 3 6", "sign 0 9", "sign 1 4",
        "cutMotif", "note 0", "note 1", "ring 2de-"};
    /** What is not marked "Undoable.", with an answer that is no error code. */
    private static final String[] QUESTIONS = {"kind 1 0", "bracelets", "bracelet 0 3", "slot 0 0", "quarter 0 0",
        "alike 0 1 2", "least 0 2 0", "orbit 0 2", "fixed 0", "distance 0 0", "classes 16 5 2", "motif 0", "motifAt 0",
        "staysAt 0", "entries", "entry 0 0", "ifHung 0 2 1", "bestSwap 0", "append 97", "clearText", "errorPosition",
        "save"};
    /** Undoable calls that make no difference after "ring 4a", "sign 0 1" and "save". */
    private static final String[] NO_DIFFERENCE = {"fill 1 8", "weigh 1 2", "swap 0 0 0", "swap 0 0 3", "roll 0 0",
        "roll 0 3", "turn 0 0", "turn 0 1", "mirror 0", "setMotif 0 0 1", "sign 0 1", "restore"};

    private final Edges e;

    UndoEdges(Edges edges) {
        e = edges;
    }

    void all() {
        eachUndoable();
        eachQuestion();
        noDifference();
        fiveStates();
        refusedLeavesTheOldest();
        bufferAndSaved();
        save();
        restore();
        restoreIsUndoable();
        listComesBack();
        fullState();
        lastCalls();
    }

    private void eachUndoable() {
        e.promise(39, "the methods that are marked as undoable record the state ahead of the call");
        for (String call : UNDOABLE) {
            e.given(STEPS);
            String before = e.after().state();
            e.due(call + " makes a difference", e.after(call).state().equals(before) ? 1 : 0, 0);
            e.due(call + ", then undo", e.after(call).call("undo"), 4);
            e.leavesState("undo", "ring ab-c8-", "ring 2a-d", "sign 0 1", "note 1");
            e.given(Edges.steps(STEPS, call));
            e.leavesState("undo", STEPS);
        }
    }

    private void eachQuestion() {
        e.promise(39, "the other methods record nothing");
        e.given(STEPS);
        for (String call : QUESTIONS) {
            long answer = e.after().call(call);
            e.due(call + " fails", answer < 0 && answer > Edges.NONE ? 1 : 0, 0);
            e.apart(call, answer);
        }
        e.promise(39, "undo itself records nothing");
        e.given(Edges.steps(STEPS, "undo"));
        e.due("a second undo", e.after().call("undo"), 3);
        e.due("a third undo", e.after("undo").call("undo"), 2);
    }

    private void noDifference() {
        e.promise(39, "also if the call makes no difference");
        for (String call : NO_DIFFERENCE) {
            e.given("ring 4a", "sign 0 1", "save");
            e.leavesState(call, "ring 4a", "sign 0 1");
            e.due(call + ", then undo", e.after(call).call("undo"), 2);
            e.due(call + ", then undo, undo, undo and undo", e.after(call, "undo", "undo", "undo").call("undo"),
                    Edges.NOT_POSSIBLE);
        }
    }

    private void fiveStates() {
        for (int calls = 0; calls <= 12; calls++) {
            String[] steps = {};
            for (int i = 1; i <= calls; i++) {
                steps = Edges.steps(steps, "fill 1 " + (20 + i));
            }
            e.given(steps);
            int kept = Math.min(calls, 5);
            String[] undone = {};
            for (int left = kept - 1; left >= 0; left--) {
                e.promise(39, "returns the number of recorded states that remain");
                e.due(calls + " calls, undo to " + left, e.after(undone).call("undo"), left);
                undone = Edges.steps(undone, "undo");
                e.promise(39, "makes the latest recorded state current");
                int at = calls - kept + left;
                e.due(calls + " calls, undone to " + left, e.after(undone).call("kind 1 0"), at == 0 ? 12 : 20 + at);
            }
            e.promise(39, "NOT_POSSIBLE if there is none; at most 5 states are kept, the oldest is discarded");
            e.given(Edges.steps(steps, undone));
            e.refused("undo", Edges.NOT_POSSIBLE);
            e.promise(39, "discards it from the recorded states");
            e.taken("fill 1 77", calls <= 5 ? 12 : 20 + calls - 5);
        }
        e.promise(39, "a state recorded after undo takes the place of the one discarded");
        e.given("fill 1 1", "fill 1 2", "fill 1 3", "fill 1 4", "fill 1 5", "fill 1 6", "undo", "undo", "fill 1 7");
        e.due("undo", e.after().call("undo"), 3);
        e.due("kind 1 0 after undo", e.after("undo").call("kind 1 0"), 4);
        e.due("kind 1 0 after undo, undo", e.after("undo", "undo").call("kind 1 0"), 3);
        e.due("kind 1 0 after four", e.after("undo", "undo", "undo", "undo").call("kind 1 0"), 1);
        e.due("a fifth", e.after("undo", "undo", "undo", "undo").call("undo"), Edges.NOT_POSSIBLE);
    }

    /** With five states recorded, a refused call discards none of them. */
    private void refusedLeavesTheOldest() {
        e.promise(39, "if they return no error code");
        e.given("ring abcd", "ring 8-", "sign 0 1", "fill 3 0", "fill 4 0", "fill 5 99", "text 3d");
        refused(Edges.NO_SUCH, "fill 0 1", "weigh 6 1", "copy 2", "remove 2", "hang 0 4 1", "hang 1 0 6", "takeOff 0 4",
                "swap 0 0 4", "swap 2 0 0", "roll 2 0", "turn 2 0", "mirror 2", "setMotif 2 0 1", "sign 2 0", "note 2");
        refused(Edges.BAD_VALUE, "fill 1 100", "weigh 1 0", "make 5", "roll 0 4", "turn 0 4", "setMotif 0 0 5",
                "sign 0 6");
        refused(Edges.NOT_POSSIBLE, "copy 0", "hang 0 0 1", "hang 1 0 3", "takeOff 1 0", "restore");
        refused(Edges.BAD_TEXT, "read");
        e.given("ring 4e", "fill 1 1", "fill 1 2", "fill 1 3", "fill 1 4", "fill 5 96");
        refused(Edges.NOT_POSSIBLE, "cutMotif", "remove 0");
        e.given(Edges.steps(Edges.times(6, "make 4"), "text 4-"));
        refused(Edges.LIMIT, "make 4", "copy 0", "read");
        e.given(Edges.steps(ListEdges.noted(10), "ring c3-"));
        refused(Edges.LIMIT, "note 0");
        e.given("fill 1 1", "fill 1 2", "fill 1 3", "fill 1 4", "fill 1 5", "fill 1 3", "text 4a");
        refused(Edges.NOT_POSSIBLE, "read");
    }

    private void refused(int code, String... calls) {
        for (String call : calls) {
            e.refused(call, code);
        }
    }

    private void bufferAndSaved() {
        e.promise(39, "the state is everything except the buffer");
        e.given("fill 1 20", "text 4a", "undo");
        e.apart("clearText", 2);
        e.given("text 4a", "read", "undo");
        e.apart("clearText", 0);
        e.given("fill 1 20", "text 4a", "fill 1 30", "clearText", "undo");
        e.apart("clearText", 0);
        e.promise(39, "the state is everything except the saved state");
        e.given("fill 1 20", "save", "undo");
        e.taken("restore", 0);
        e.leavesState("restore", "fill 1 20");
        e.given("save", "fill 1 20", "save", "undo", "fill 1 30");
        e.leavesState("restore", "fill 1 20");
        e.promise(41, "the state is everything except the buffer");
        e.given("save", "text 4a", "restore");
        e.apart("clearText", 2);
        e.given("text 4a", "save", "clearText", "restore");
        e.apart("clearText", 0);
        e.promise(41, "the state is everything except the recorded states");
        e.given("fill 1 1", "fill 1 2", "save", "fill 1 3", "restore", "undo", "undo");
        e.leavesState("undo", "fill 1 1");
        e.due("undo", e.after().call("undo"), 1);
    }

    private void save() {
        e.promise(40, "returns the number of bracelets");
        for (int number = 0; number <= 6; number++) {
            e.given(Edges.times(number, "make 4"));
            e.apart("save", number);
            e.given(Edges.steps(Edges.times(6, "make 4"), Edges.times(number, "mirror 0"), "remove 3"));
            e.apart("save", 5);
        }
        e.promise(40, "overwrites the state that was saved before");
        String[] first = {"ring abcd", "sign 0 3", "note 0"};
        String[] second = {"remove 0", "weigh 1 9", "make 8", "make 8", "cutMotif"};
        e.given(Edges.steps(first, "save", second, "save", "make 16"));
        e.taken("restore", 2);
        e.leavesState("restore", Edges.steps(first, second));
    }

    private void restore() {
        e.promise(41, "NOT_POSSIBLE if no state was saved");
        e.given();
        e.refused("restore", Edges.NOT_POSSIBLE);
        e.given(STEPS);
        e.refused("restore", Edges.NOT_POSSIBLE);
        e.promise(41, "returns the number of bracelets then");
        for (int number = 0; number <= 6; number++) {
            e.given(Edges.steps(Edges.times(number, "make 4"), "save", number == 0 ? "make 8" : "remove 0"));
            e.taken("restore", number);
        }
        e.promise(41, "makes the saved state current: the box, the bracelets, the motif and the list");
        for (String call : UNDOABLE) {
            e.given(Edges.steps(STEPS, "save", call));
            e.leavesState("restore", STEPS);
            e.promise(41, "it remains saved");
            e.given(Edges.steps(STEPS, "save", call, "restore", call));
            e.leavesState("restore", STEPS);
        }
    }

    private void restoreIsUndoable() {
        e.promise(41, "undoable");
        for (String call : UNDOABLE) {
            e.given(Edges.steps(STEPS, "save", call));
            e.taken("restore", 2);
            e.given(Edges.steps(STEPS, "save", call, "restore"));
            e.leavesState("undo", Edges.steps(STEPS, call));
        }
        e.promise(41, "the sixth recorded state discards the oldest");
        String[] undone = Edges.times(4, "undo");
        e.given(Edges.steps("save", "fill 1 1", "fill 1 2", "fill 1 3", "fill 1 4", "fill 1 5", "restore", undone));
        e.due("undo", e.after().call("undo"), 0);
        e.leavesState("undo", "fill 1 1");
    }

    /** The same entry is of one class, then of another, then of the one again: the first entry, and the last. */
    private void listComesBack() {
        e.promise(39, "the class of an entry is part of the state");
        String[] other = {"save", "note 0", "restore", "note 1", "undo", "undo"};
        e.given(Edges.steps("ring abcd", "ring acbd", other));
        e.asked("entry 0 1", 1);
        e.taken("note 0", 0);
        e.taken("note 1", 1);
        e.given(Edges.steps(ListEdges.noted(9), "ring c3-", "ring d3-", other));
        e.taken("note 0", 9);
        e.refused("note 1", Edges.LIMIT);
        e.promise(41, "the class of an entry is part of the state");
        e.given("ring abcd", "ring acbd", "note 0", "save", "undo", "note 1", "restore");
        e.taken("note 0", 0);
        e.taken("note 1", 1);
    }

    /** Each part of the state up to its last element: the kind 5, the bracelet 5, slot 15, the sign 5, the entry 9. */
    private void fullState() {
        String[] full = Edges.steps(ListEdges.noted(10), Edges.times(6, "make 16"), "hang 0 0 1", "hang 5 0 5",
                "hang 5 15 5", MotifEdges.signs("123450"), "fill 1 98", "fill 5 98", "weigh 1 50", "weigh 5 49");
        String[] changes = {"fill 1 0", "fill 5 0", "weigh 1 1", "weigh 5 1", "takeOff 0 0", "takeOff 5 0",
            "takeOff 5 15", "remove 4", "mirror 5", "setMotif 3 0 6", "sign 0 9", "sign 5 9", "cutMotif"};
        for (String call : changes) {
            e.promise(39, "the state is all of it");
            e.given(Edges.steps(full, call));
            e.leavesState("undo", full);
            e.promise(41, "the state is all of it");
            e.given(Edges.steps(full, "save", call));
            e.leavesState("restore", full);
            e.given(Edges.steps(full, "save", changes, "undo", "undo", "undo", "undo", "undo"));
            e.leavesState("restore", full);
        }
    }

    /** An object is used for 512 calls, and the last of them answers as the others do. */
    private void lastCalls() {
        e.promise(30, "512 calls");
        CharmBracelets x = new CharmBracelets();
        e.due("make", x.make(4), 0);
        for (int call = 2; call <= 510; call++) {
            e.due("note, call " + call, x.note(0), 0);
        }
        e.due("entry, call 511", x.entry(0, 1), 509);
        e.due("undo, call 512", x.undo(), 4);
        CharmBracelets y = new CharmBracelets();
        for (int call = 1; call <= 512; call++) {
            e.due("append, call " + call, y.append(97), call <= 60 ? call : Edges.LIMIT);
        }
    }
}
