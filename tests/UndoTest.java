/** Promises 39 to 41, and which of the methods are undoable: undo, save, restore. */
public final class UndoTest {
    private static final int ANY = CharmBracelets.ANY;
    private static final Check check = new Check();

    public static void main(String[] args) {
        undoOfEach();
        nothingFromErrors();
        nothingFromQuestions();
        fiveStates();
        bufferStays();
        save();
        restore();
        undoAndRestore();
        listComesBack();
        check.finish();
    }

    /** Three recorded states, a box without c, a motif, and 12 as well as 4 slots. */
    private static CharmBracelets prepared() {
        CharmBracelets x = new CharmBracelets();
        Check.read(x, "ab-c8-");
        Check.read(x, "2a-d");
        x.sign(0, 1);
        x.fill(3, 0);
        return x;
    }

    /** The undoable calls, by number; each of them changes something. */
    private static int undoable(CharmBracelets x, int number) {
        switch (number) {
            case 0: return x.fill(1, 99);
            case 1: return x.weigh(2, 50);
            case 2: return x.make(16);
            case 3: return x.copy(1);
            case 4: return x.remove(0);
            case 5: return x.hang(0, 11, 5);
            case 6: return x.takeOff(0, 0);
            case 7: return x.swap(0, 0, 11);
            case 8: return x.roll(0, 5);
            case 9: return x.turn(0, 2);
            case 10: return x.mirror(0);
            case 11: return x.setMotif(0, 3, 6);
            case 12: return x.sign(0, ANY);
            case 13: return x.sign(1, 4);
            case 14: return x.cutMotif();
            case 15: return x.note(1);
            case 16: return Check.read(x, "2de-");
            default: return CharmBracelets.NONE;
        }
    }

    private static void undoOfEach() {
        for (int i = 0; i <= 16; i++) {
            CharmBracelets x = prepared();
            String before = Check.look(x);
            check.due("undoable call " + i + " succeeds", undoable(x, i) >= 0 ? 1 : 0, 1);
            check.due("undoable call " + i + " changes something", Check.look(x).equals(before) ? 0 : 1, 1);
            check.due("undo() of call " + i, x.undo(), 4);
            check.same("the state after undo() of call " + i, Check.look(x), before);
            check.due("undo() once more", x.undo(), 3);
        }
        CharmBracelets x = new CharmBracelets();
        Check.read(x, "4-");
        x.fill(1, 12);
        x.roll(0, 0);
        x.swap(0, 1, 1);
        check.due("undo(), also of what made no difference", x.undo(), 3);
        check.due("undo(), also of what made no difference", x.undo(), 2);
        check.due("undo(), also of what made no difference", x.undo(), 1);
        check.due("bracelets()", x.bracelets(), 1);
        check.due("undo()", x.undo(), 0);
        check.due("bracelets()", x.bracelets(), 0);
        check.due("undo()", x.undo(), -3);
    }

    /** Calls that end with an error code, by number. */
    private static int failing(CharmBracelets x, int number) {
        switch (number) {
            case 0: return x.fill(0, 5);
            case 1: return x.fill(1, 100);
            case 2: return x.weigh(6, 5);
            case 3: return x.weigh(1, 0);
            case 4: return x.make(7);
            case 5: return x.copy(2);
            case 6: return x.copy(0);
            case 7: return x.remove(2);
            case 8: return x.hang(0, 12, 1);
            case 9: return x.hang(0, 0, 1);
            case 10: return x.hang(0, 2, 3);
            case 11: return x.takeOff(2, 0);
            case 12: return x.takeOff(0, 2);
            case 13: return x.swap(0, 0, 12);
            case 14: return x.roll(2, 0);
            case 15: return x.roll(0, 12);
            case 16: return x.turn(2, 0);
            case 17: return x.turn(0, 4);
            case 18: return x.mirror(2);
            case 19: return x.setMotif(0, 12, 1);
            case 20: return x.setMotif(1, 0, 5);
            case 21: return x.sign(2, 0);
            case 22: return x.sign(0, 6);
            case 23: return x.note(2);
            case 24: return Check.read(x, "2d-");
            case 25: return Check.read(x, "c3-");
            case 26: return x.restore();
            default: return CharmBracelets.NONE;
        }
    }

    private static void nothingFromErrors() {
        for (int i = 0; i <= 26; i++) {
            CharmBracelets x = prepared();
            String before = Check.look(x);
            int answer = failing(x, i);
            check.due("failing call " + i + " fails", answer < 0 && answer > CharmBracelets.NONE ? 1 : 0, 1);
            check.same("the state after failing call " + i, Check.look(x), before);
            check.due("undo() after failing call " + i, x.undo(), 3);
            check.due("fill(3, 0) is what was undone", x.kind(3, 0), 11);
        }
    }

    private static void nothingFromQuestions() {
        CharmBracelets x = prepared();
        String before = Check.look(x);
        x.kind(1, 2);
        x.bracelets();
        x.bracelet(0, 3);
        x.slot(0, 0);
        x.quarter(0, 0);
        x.alike(0, 1, 2);
        x.least(0, 2, 0);
        x.orbit(0, 2);
        x.fixed(0);
        x.distance(0, 0);
        x.classes(16, 5, 2);
        x.motif(0);
        x.motifAt(0);
        x.staysAt(0);
        x.entries();
        x.entry(0, 0);
        x.ifHung(0, 2, 1);
        x.bestSwap(0);
        x.append(97);
        x.errorPosition();
        x.clearText();
        x.save();
        check.same("the state", Check.look(x), before);
        check.due("undo()", x.undo(), 3);
        check.due("fill(3, 0) is what was undone", x.kind(3, 0), 11);
    }

    private static void fiveStates() {
        CharmBracelets x = new CharmBracelets();
        check.due("undo()", x.undo(), -3);
        for (int number = 20; number <= 29; number++) {
            x.fill(1, number);
        }
        for (int left = 4; left >= 0; left--) {
            check.due("undo()", x.undo(), left);
            check.due("kind(1, 0)", x.kind(1, 0), 24 + left);
        }
        check.due("undo()", x.undo(), -3);
        check.due("kind(1, 0)", x.kind(1, 0), 24);
        x.fill(1, 50);
        x.fill(1, 51);
        check.due("undo()", x.undo(), 1);
        x.fill(1, 52);
        check.due("undo()", x.undo(), 1);
        check.due("kind(1, 0)", x.kind(1, 0), 50);
        check.due("undo()", x.undo(), 0);
        check.due("kind(1, 0)", x.kind(1, 0), 24);
    }

    private static void bufferStays() {
        CharmBracelets x = new CharmBracelets();
        Check.read(x, "4a");
        Check.write(x, "8b");
        check.due("undo()", x.undo(), 0);
        check.due("errorPosition(), the buffer is not undone", x.errorPosition(), -6);
        check.due("read()", x.read(), 0);
        x.undo();
        check.due("clearText(), the text does not come back", x.clearText(), 0);
        x.save();
        Check.write(x, "4c");
        x.restore();
        check.due("clearText(), the buffer is not restored", x.clearText(), 2);
    }

    private static void save() {
        CharmBracelets x = new CharmBracelets();
        check.due("save()", x.save(), 0);
        Check.read(x, "4a");
        Check.read(x, "4b");
        x.remove(0);
        check.due("save()", x.save(), 1);
        x.make(4);
        check.due("save()", x.save(), 2);
        check.due("save()", x.save(), 2);
        check.due("undo(), save is not undoable", x.undo(), 3);
        check.due("restore(), the latest saved state", x.restore(), 2);
        check.due("bracelets()", x.bracelets(), 3);
    }

    private static void restore() {
        CharmBracelets x = prepared();
        check.due("restore(), nothing saved", x.restore(), -3);
        x.note(0);
        x.weigh(5, 1);
        String before = Check.look(x);
        check.due("save()", x.save(), 2);
        x.remove(0);
        x.turn(1, 1);
        x.cutMotif();
        x.note(1);
        x.fill(4, 0);
        x.weigh(5, 2);
        check.due("restore()", x.restore(), 2);
        check.same("the restored state", Check.look(x), before);
        x.hang(0, 2, 1);
        x.note(0);
        check.due("restore(), it remains saved", x.restore(), 2);
        check.same("the restored state", Check.look(x), before);
    }

    private static void undoAndRestore() {
        CharmBracelets x = new CharmBracelets();
        x.save();
        Check.read(x, "4a");
        String before = Check.look(x);
        check.due("restore()", x.restore(), 0);
        check.due("bracelets()", x.bracelets(), 0);
        check.due("undo(), restore is undoable", x.undo(), 1);
        check.same("the state ahead of restore()", Check.look(x), before);
        check.due("undo()", x.undo(), 0);
        check.due("restore(), undo leaves the saved state", x.restore(), 0);
        check.due("restore(), also if it makes no difference", x.restore(), 0);
        check.due("undo()", x.undo(), 1);
    }

    /** The same entry is first of one class, then of another, then of the one again. */
    private static void listComesBack() {
        CharmBracelets x = new CharmBracelets();
        Check.read(x, "a7-");
        Check.read(x, "b3-");
        x.save();
        x.note(0);
        x.note(0);
        check.due("restore(), to an empty list", x.restore(), 2);
        check.due("entries()", x.entries(), 0);
        check.due("note(1)", x.note(1), 0);
        check.due("entry(0, 0)", x.entry(0, 0), 4);
        check.due("entry(0, 1)", x.entry(0, 1), 1);
        x.undo();
        check.due("undo(), to the list ahead of restore()", x.undo(), 3);
        check.due("entry(0, 0)", x.entry(0, 0), 8);
        check.due("entry(0, 1)", x.entry(0, 1), 2);
        check.due("entry(0, 2)", x.entry(0, 2), 1);
        check.due("note(1)", x.note(1), 1);
        x.undo();
        x.undo();
        check.due("entry(0, 1)", x.entry(0, 1), 1);
        x.undo();
        check.due("note(1), after all notes are undone", x.note(1), 0);
        check.due("entry(0, 0)", x.entry(0, 0), 4);
        check.due("entry(0, 1)", x.entry(0, 1), 1);
    }
}
