/** The edges of promises 30 to 32: note, entries, entry. */
final class ListEdges {
    // Ten classes of four slots; no two of them are alike at level 1.
    private static final String[] TEN = {"4-", "a3-", "2a2-", "a-a-", "3a-", "4a", "b3-", "2b2-", "b-b-", "3b-"};

    private final Edges e;

    ListEdges(Edges edges) {
        e = edges;
    }

    void all() {
        note();
        noteClasses();
        noteLimit();
        entries();
        entry();
        entryNow();
    }

    /** Notes so many of the ten classes, each with a bracelet 0 that is removed then. */
    static String[] noted(int number) {
        String[] steps = {};
        for (int i = 0; i < number; i++) {
            steps = Edges.steps(steps, "ring " + TEN[i], "note 0", "remove 0");
        }
        return steps;
    }

    private void note() {
        e.promise(30, "NO_SUCH if there is no such bracelet");
        e.rangeOfBracelets("note ?", "abcd");
        e.promise(30, "the number of its entry, from 0 in the order of the list");
        for (int number = 0; number < 10; number++) {
            e.given(Edges.steps(noted(number), "ring " + TEN[number]));
            e.taken("note 0", number);
            for (int i = 0; i < number; i++) {
                e.given(Edges.steps(noted(number), "ring " + TEN[i]));
                e.taken("note 0", i);
            }
        }
    }

    private void noteClasses() {
        for (int n : Edges.SIZES) {
            for (int k = 0; k < n; k++) {
                e.promise(30, "a class of bracelets that are alike at level 1");
                e.given("ring " + AlikeEdges.begin("abc", n), "note 0", "roll 0 " + k);
                e.taken("note 0", 0);
                e.promise(30, "not at level 2");
                e.given("ring " + AlikeEdges.begin("abc", n), "note 0", "mirror 0", "roll 0 " + k);
                e.taken("note 0", 1);
                e.promise(30, "another class if one slot differs");
                e.given("ring " + AlikeEdges.begin("abc", n), "note 0", "takeOff 0 0", "roll 0 " + k);
                e.taken("note 0", 1);
            }
        }
        e.promise(30, "another class with another number of slots");
        e.given("make 4", "make 8", "make 12", "make 16", "note 0", "note 1", "note 2");
        e.taken("note 3", 3);
        e.taken("note 0", 0);
        e.taken("note 1", 1);
        e.taken("note 2", 2);
        e.promise(30, "notes the bracelet as it is then");
        e.given("ring abcd", "note 0", "swap 0 0 1", "note 0");
        e.taken("note 0", 1);
        e.asked("entry 0 1", 1);
        e.asked("entry 0 2", 0);
        e.asked("entry 1 2", 1);
        e.given("ring abcd", "note 0", "remove 0");
        e.asked("entry 0 0", 4);
        e.asked("entry 0 1", 1);
    }

    private void noteLimit() {
        e.promise(30, "LIMIT if its class has no entry yet and there are 10 entries");
        e.given(Edges.steps(noted(9), "ring c3-"));
        e.taken("note 0", 9);
        e.given(Edges.steps(noted(10), "ring c3-", "make 8"));
        e.refused("note 0", Edges.LIMIT);
        e.refused("note 1", Edges.LIMIT);
        e.asked("entries", 10);
        e.promise(30, "no LIMIT if its class has an entry");
        for (int i = 0; i < 10; i++) {
            e.given(Edges.steps(noted(10), "ring " + TEN[i], "roll 0 3"));
            e.taken("note 0", i);
        }
        e.promise(30, "no LIMIT if the tenth is undone");
        e.given(Edges.steps(noted(9), "ring c3-", "note 0", "undo"));
        e.taken("note 0", 9);
        e.promise(30, "NO_SUCH ahead of LIMIT");
        e.given(Edges.steps(noted(10), "ring c3-"));
        e.refused("note 1", Edges.NO_SUCH);
        e.refused("note -1", Edges.NO_SUCH);
    }

    private void entries() {
        e.promise(31, "the number of entries");
        for (int number = 0; number <= 10; number++) {
            e.given(noted(number));
            e.asked("entries", number);
            e.given(Edges.steps(noted(number), noted(number)));
            e.asked("entries", number);
        }
    }

    private void entry() {
        e.promise(32, "NO_SUCH if there is no such entry");
        e.given("make 4");
        e.outside("entry ? 0", Edges.NO_SUCH, "-1", "0", "1", "9", "10");
        for (int number = 1; number <= 10; number++) {
            e.given(noted(number));
            e.range("entry ? 0", 0, number - 1, Edges.NO_SUCH);
            e.range("entry ? 2", 0, number - 1, Edges.NO_SUCH);
            e.promise(32, "part: 0 to 2");
            e.range("entry " + (number - 1) + " ?", 0, 2, Edges.BAD_VALUE);
            e.promise(32, "NO_SUCH ahead of BAD_VALUE");
            e.refused("entry " + number + " 3", Edges.NO_SUCH);
            e.refused("entry -1 -1", Edges.NO_SUCH);
        }
        e.promise(32, "no entry that is undone");
        e.given("make 4", "note 0", "make 8", "note 1", "undo");
        e.refused("entry 1 0", Edges.NO_SUCH);
    }

    private void entryNow() {
        e.promise(32, "0 for its number of slots");
        e.given("make 16", "make 12", "make 8", "make 4", "note 0", "note 1", "note 2", "note 3");
        for (int i = 0; i < 4; i++) {
            e.asked("entry " + i + " 0", 16 - 4 * i);
            e.asked("entry " + i + " 2", 1);
        }
        e.promise(32, "1 for how often its class was noted");
        for (int often = 1; often <= 7; often++) {
            e.given(Edges.steps("ring abc-", "make 4", "note 1", Edges.times(often, "note 0")));
            e.asked("entry 1 1", often);
            e.asked("entry 0 1", 1);
        }
        e.given(Edges.steps("ring abc-", Edges.times(300, "note 0")));
        e.due("300 notes", e.after().call("entry 0 1"), 300);
        e.promise(32, "2 for the number of bracelets that there are now of its class");
        for (int number = 0; number <= 5; number++) {
            e.given(Edges.steps("ring abc-", "note 0", Edges.times(number, "copy 0")));
            e.asked("entry 0 2", number + 1);
            e.given(Edges.steps("ring abc-", "note 0", Edges.times(number, "copy 0"), "remove 0"));
            e.asked("entry 0 2", number);
        }
        e.given("ring abc5-", "note 0", "copy 0", "copy 0", "copy 0", "roll 1 1", "roll 2 7", "mirror 3");
        e.asked("entry 0 2", 3);
        e.given("ring abc5-", "note 0", "ring abc9-", "ring abc-", "takeOff 0 0");
        e.asked("entry 0 2", 0);
    }
}
