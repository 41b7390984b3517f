/** The edges of promises 1 to 4: a new object, fill, weigh, kind. */
final class BoxEdges {
    private final Edges e;

    BoxEdges(Edges edges) {
        e = edges;
    }

    void all() {
        newObject();
        fill();
        weigh();
        kind();
        hungAndTakenOff();
    }

    private void newObject() {
        e.given();
        e.promise(1, "a full box: 12 charms of each kind");
        for (int k = 1; k <= 5; k++) {
            e.asked("kind " + k + " 0", 12);
        }
        e.promise(1, "the weight of the kind k is 2 * k");
        for (int k = 1; k <= 5; k++) {
            e.asked("kind " + k + " 1", 2 * k);
        }
        e.promise(1, "without bracelets");
        e.asked("bracelets", 0);
        for (int b = 0; b < 6; b++) {
            e.refused("bracelet " + b + " 0", Edges.NO_SUCH);
        }
        for (int k = 1; k <= 5; k++) {
            e.asked("kind " + k + " 2", 0);
        }
        e.promise(1, "without a motif");
        e.refused("motif 0", Edges.NO_SUCH);
        e.refused("cutMotif", Edges.NOT_POSSIBLE);
        e.promise(1, "without entries");
        e.asked("entries", 0);
        e.refused("entry 0 0", Edges.NO_SUCH);
        e.promise(1, "an empty buffer, no recorded and no saved state");
        e.apart("clearText", 0);
        e.refused("undo", Edges.NOT_POSSIBLE);
        e.refused("restore", Edges.NOT_POSSIBLE);
    }

    private void fill() {
        e.given("ring ab-d");
        e.promise(2, "kind: 1 to 5");
        e.range("fill ? 5", 1, 5, Edges.NO_SUCH);
        e.promise(2, "number: 0 to 99");
        e.range("fill 3 ?", 0, 99, Edges.BAD_VALUE);
        e.promise(2, "returns the previous number");
        e.taken("fill 1 0", 11);
        e.taken("fill 1 99", 11);
        e.taken("fill 3 0", 12);
        e.taken("fill 5 99", 12);
        e.given("fill 1 0", "fill 5 99");
        e.taken("fill 1 1", 0);
        e.taken("fill 5 98", 99);
        e.promise(2, "the number of charms in the box from now on");
        e.asked("kind 1 0", 0);
        e.asked("kind 5 0", 99);
        e.asked("kind 2 0", 12);
        e.asked("kind 4 0", 12);
        e.promise(2, "NO_SUCH ahead of BAD_VALUE");
        e.refused("fill 0 100", Edges.NO_SUCH);
        e.refused("fill 6 -1", Edges.NO_SUCH);
    }

    private void weigh() {
        e.given("ring abcde3-");
        e.promise(3, "kind: 1 to 5");
        e.range("weigh ? 5", 1, 5, Edges.NO_SUCH);
        e.promise(3, "weight: 1 to 50");
        e.range("weigh 3 ?", 1, 50, Edges.BAD_VALUE);
        e.promise(3, "returns the previous weight");
        e.taken("weigh 1 50", 2);
        e.taken("weigh 5 1", 10);
        e.given("ring abcde3-", "weigh 1 50", "weigh 5 1");
        e.taken("weigh 1 49", 50);
        e.taken("weigh 5 2", 1);
        e.promise(3, "all charms of a kind have the same weight");
        e.asked("bracelet 0 2", 50 + 4 + 6 + 8 + 1);
        e.asked("kind 1 1", 50);
        e.asked("kind 5 1", 1);
        e.asked("kind 2 1", 4);
        e.promise(3, "NO_SUCH ahead of BAD_VALUE");
        e.refused("weigh 0 51", Edges.NO_SUCH);
        e.refused("weigh 6 0", Edges.NO_SUCH);
    }

    private void kind() {
        e.given("ring 2abc", "ring 3a5-");
        e.promise(4, "kind: 1 to 5");
        for (int part = 0; part < 3; part++) {
            e.range("kind ? " + part, 1, 5, Edges.NO_SUCH);
        }
        e.promise(4, "part: 0 to 2");
        e.range("kind 1 ?", 0, 2, Edges.BAD_VALUE);
        e.range("kind 5 ?", 0, 2, Edges.BAD_VALUE);
        e.promise(4, "NO_SUCH ahead of BAD_VALUE");
        e.refused("kind 0 3", Edges.NO_SUCH);
        e.refused("kind 6 -1", Edges.NO_SUCH);
        e.promise(4, "the number of charms on all bracelets");
        e.asked("kind 1 2", 5);
        e.asked("kind 2 2", 1);
        e.asked("kind 4 2", 0);
        e.given(Edges.steps("fill 1 99", Edges.times(6, "ring 16a")));
        e.asked("kind 1 2", 96);
        e.asked("kind 1 0", 3);
        e.given(Edges.steps("fill 1 99", Edges.times(6, "ring 16a"), "remove 0", "remove 5", "fill 1 0"));
        e.asked("kind 1 2", 64);
    }

    /** What the terms say of the box: hung from it, taken off into it. */
    private void hungAndTakenOff() {
        for (int k = 1; k <= 5; k++) {
            e.promise(8, "a charm that is hung comes from the box");
            e.given("make 4", "hang 0 3 " + k);
            e.asked("kind " + k + " 0", 11);
            e.asked("kind " + k + " 2", 1);
            e.promise(9, "a charm that is taken off goes back into the box");
            e.given("make 4", "hang 0 3 " + k, "takeOff 0 3");
            e.asked("kind " + k + " 0", 12);
            e.asked("kind " + k + " 2", 0);
        }
    }
}
