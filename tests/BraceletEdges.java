/** The edges of promises 5 to 17: making, copying and removing bracelets, their charms, changes and weights. */
final class BraceletEdges {
    private static final String[] SIX = Edges.times(6, "make 4");
    private static final String KINDS = "-abcde";

    private final Edges e;

    BraceletEdges(Edges edges) {
        e = edges;
    }

    void all() {
        make();
        makeLimit();
        copy();
        copyFromTheBox();
        copyLimit();
        remove();
        hang();
        hangPossible();
        takeOff();
        swap();
        roll();
        turn();
        mirror();
        bracelets();
        bracelet();
        slot();
        quarter();
    }

    /** A charm of the kind a in one slot of a ring. */
    static String single(int slots, int slot) {
        StringBuilder text = new StringBuilder();
        for (int s = 0; s < slots; s++) {
            text.append(s == slot ? 'a' : '-');
        }
        return text.toString();
    }

    private static String[] emptyBox() {
        String[] steps = new String[5];
        for (int k = 1; k <= 5; k++) {
            steps[k - 1] = "fill " + k + " 0";
        }
        return steps;
    }

    private void make() {
        e.promise(5, "slots: 4, 8, 12 or 16");
        e.given();
        for (int slots = -20; slots <= 40; slots++) {
            if (slots < 4 || slots > 16 || slots % 4 != 0) {
                e.refused("make " + slots, Edges.BAD_VALUE);
            }
        }
        e.outside("make ?", Edges.BAD_VALUE, "1000");
        for (int slots : Edges.SIZES) {
            e.given();
            e.promise(5, "slots: 4, 8, 12 or 16");
            e.taken("make " + slots, 0);
            e.promise(5, "an empty bracelet");
            e.leaves("make " + slots, 0, "-".repeat(slots));
            e.given("ring 12abcde", "fill 1 50", "remove 0");
            e.leaves("make " + slots, 0, "-".repeat(slots));
            e.given("ring 12abcde", "text 9b4c", "errorPosition", "ifHung 0 11 5", "bestSwap 0");
            e.leaves("make " + slots, 1, "-".repeat(slots));
        }
    }

    private void makeLimit() {
        e.promise(5, "a new bracelet gets the lowest free number");
        for (int b = 0; b < 6; b++) {
            e.given(Edges.steps(SIX, "remove " + b));
            e.taken("make 8", b);
            for (int other = b + 1; other < 6; other++) {
                e.given(Edges.steps(SIX, "remove " + b, "remove " + other));
                e.taken("make 8", b);
                e.given(Edges.steps(SIX, "remove " + other, "remove " + b, "make 8"));
                e.taken("make 8", other);
            }
        }
        e.promise(5, "LIMIT if there are 6 bracelets");
        e.given(Edges.times(5, "make 4"));
        e.taken("make 16", 5);
        e.given(SIX);
        for (int slots : Edges.SIZES) {
            e.refused("make " + slots, Edges.LIMIT);
        }
        e.promise(5, "BAD_VALUE ahead of LIMIT");
        e.refused("make 0", Edges.BAD_VALUE);
        e.refused("make 5", Edges.BAD_VALUE);
        e.refused("make 20", Edges.BAD_VALUE);
        e.promise(5, "it needs no charm of the box");
        e.given(emptyBox());
        e.taken("make 16", 0);
    }

    private void copy() {
        e.promise(6, "NO_SUCH if there is no such bracelet");
        e.given(Edges.steps(SIX, "remove 0"));
        e.range("copy ?", 1, 5, Edges.NO_SUCH);
        e.given(Edges.steps(SIX, "remove 5"));
        e.range("copy ?", 0, 4, Edges.NO_SUCH);
        e.given();
        e.refused("copy 0", Edges.NO_SUCH);
        e.promise(6, "the same charms in the same slots");
        for (String text : new String[] {"abcd", "e--a", "-ab-cde-", "a-b2-c2-d2-e", "e-2d3-c4-b2-a"}) {
            e.given("ring " + text);
            e.taken("copy 0", 1);
            e.leaves("copy 0", 1, e.after().slots(0));
            e.leaves("copy 0", 0, e.after().slots(0));
        }
        e.given("ring abc-", "copy 0", "hang 0 3 5");
        e.leaves("roll 0 1", 1, "abc-");
        e.given("ring abc-", "copy 0", "hang 1 3 5");
        e.leaves("roll 1 1", 0, "abc-");
        e.promise(6, "a new bracelet gets the lowest free number");
        e.given("ring a3-", "make 8", "make 12", "remove 1");
        e.taken("copy 0", 1);
        e.given("make 4", "make 8", "ring a3-", "remove 0");
        e.taken("copy 2", 0);
    }

    private void copyFromTheBox() {
        for (int k = 1; k <= 5; k++) {
            char charm = KINDS.charAt(k);
            e.promise(6, "NOT_POSSIBLE if the box does not contain enough charms");
            e.given("ring 3" + charm + "-", "fill " + k + " 2");
            e.refused("copy 0", Edges.NOT_POSSIBLE);
            e.given("ring 3" + charm + "-", "fill " + k + " 3");
            e.taken("copy 0", 1);
            e.given("ring " + charm + "15-", "fill " + k + " 0");
            e.refused("copy 0", Edges.NOT_POSSIBLE);
            e.given("ring abcde3-", "fill " + k + " 0");
            e.refused("copy 0", Edges.NOT_POSSIBLE);
            e.promise(6, "charms from the box");
            e.given("ring 3" + charm + "-", "fill " + k + " 3", "copy 0");
            e.asked("kind " + k + " 0", 0);
            e.asked("kind " + k + " 2", 6);
            e.asked("kind " + (k % 5 + 1) + " 0", 12);
        }
        e.promise(6, "NOT_POSSIBLE: no charm is needed for an empty slot");
        e.given(Edges.steps("make 16", emptyBox()));
        e.taken("copy 0", 1);
    }

    private void copyLimit() {
        e.promise(6, "LIMIT if there are 6 bracelets");
        e.given(Edges.times(5, "make 4"));
        e.taken("copy 4", 5);
        e.given(SIX);
        e.refused("copy 0", Edges.LIMIT);
        e.refused("copy 5", Edges.LIMIT);
        e.promise(6, "NOT_POSSIBLE ahead of LIMIT");
        e.given(Edges.steps("ring 4a", Edges.times(5, "make 4"), "fill 1 3"));
        e.refused("copy 0", Edges.NOT_POSSIBLE);
        e.given(Edges.steps("ring 4a", Edges.times(5, "make 4"), "fill 1 4"));
        e.refused("copy 0", Edges.LIMIT);
        e.promise(6, "NO_SUCH ahead of LIMIT");
        e.refused("copy 6", Edges.NO_SUCH);
        e.refused("copy -1", Edges.NO_SUCH);
    }

    private void remove() {
        e.promise(7, "NO_SUCH if there is no such bracelet");
        e.rangeOfBracelets("remove ?", "a3-");
        for (int k = 1; k <= 5; k++) {
            char charm = KINDS.charAt(k);
            e.promise(7, "NOT_POSSIBLE if the box would contain more than 99 charms of a kind");
            e.given("ring 3" + charm + "-", "fill " + k + " 97");
            e.refused("remove 0", Edges.NOT_POSSIBLE);
            e.given("ring 3" + charm + "-", "fill " + k + " 96");
            e.taken("remove 0", 3);
            e.given("ring 2-" + charm + "-", "fill " + k + " 99");
            e.refused("remove 0", Edges.NOT_POSSIBLE);
            e.given("ring abcde3-", "fill " + k + " 99");
            e.refused("remove 0", Edges.NOT_POSSIBLE);
            e.given("ring abcde3-", "fill " + k + " 98");
            e.taken("remove 0", 5);
            e.promise(7, "takes all charms off, back into the box");
            e.given("ring 3" + charm + "-", "fill " + k + " 96", "remove 0");
            e.asked("kind " + k + " 0", 99);
            e.asked("kind " + k + " 2", 0);
            e.asked("kind " + (k % 5 + 1) + " 0", 12);
        }
        e.promise(7, "returns the number of its charms");
        e.given("make 16", "fill 1 99", "fill 2 99", "fill 3 99", "fill 4 99", "fill 5 99");
        e.taken("remove 0", 0);
        e.given("fill 5 16", "ring 16e");
        e.taken("remove 0", 16);
        e.promise(7, "and removes it");
        e.given("ring 4a", "make 8", "remove 0");
        e.asked("bracelets", 2);
        e.refused("remove 0", Edges.NO_SUCH);
        e.refused("slot 0 0", Edges.NO_SUCH);
        e.leaves("roll 1 1", 1, "--------");
    }

    private void hang() {
        e.promise(8, "NO_SUCH if there is no such bracelet");
        e.rangeOfBracelets("hang ? 0 2", "-3a");
        for (int slots : Edges.SIZES) {
            e.given("make " + slots);
            e.promise(8, "NO_SUCH if there is no such slot");
            e.range("hang 0 ? 1", 0, slots - 1, Edges.NO_SUCH);
            e.promise(8, "NO_SUCH if there is no such kind");
            e.range("hang 0 " + (slots - 1) + " ?", 1, 5, Edges.NO_SUCH);
            for (int s = 0; s < slots; s++) {
                e.promise(8, "hangs a charm on this slot and on no other");
                e.leaves("hang 0 " + s + " 1", 0, single(slots, s));
            }
        }
        e.promise(8, "NO_SUCH ahead of NOT_POSSIBLE");
        e.given("ring 4a", "ring a7-", "fill 1 0");
        e.refused("hang 0 0 6", Edges.NO_SUCH);
        e.refused("hang 0 0 0", Edges.NO_SUCH);
        e.refused("hang 0 0 9", Edges.NO_SUCH);
        e.refused("hang 0 4 1", Edges.NO_SUCH);
        e.refused("hang 0 -1 1", Edges.NO_SUCH);
        e.refused("hang 1 8 1", Edges.NO_SUCH);
        e.refused("hang 2 0 1", Edges.NO_SUCH);
    }

    private void hangPossible() {
        for (int k = 1; k <= 5; k++) {
            e.promise(8, "NOT_POSSIBLE if the slot is not empty");
            e.given("ring -" + KINDS.charAt(k) + "2-");
            for (int other = 1; other <= 5; other++) {
                e.refused("hang 0 1 " + other, Edges.NOT_POSSIBLE);
            }
            e.taken("hang 0 0 " + k, 10);
            e.taken("hang 0 2 " + k, 10);
            e.promise(8, "NOT_POSSIBLE if the box contains no charm of this kind");
            e.given("make 4", "fill " + k + " 0");
            e.refused("hang 0 0 " + k, Edges.NOT_POSSIBLE);
            e.taken("hang 0 0 " + (k % 5 + 1), 11);
            e.promise(8, "returns the number of charms of this kind that remain in the box");
            e.given("make 4", "fill " + k + " 1");
            e.taken("hang 0 0 " + k, 0);
            e.given("make 4", "fill " + k + " 99");
            e.taken("hang 0 3 " + k, 98);
        }
    }

    private void takeOff() {
        e.promise(9, "NO_SUCH if there is no such bracelet");
        e.rangeOfBracelets("takeOff ? 0", "4a");
        e.promise(9, "NO_SUCH if there is no such slot");
        for (int slots : Edges.SIZES) {
            e.given("fill 1 20", "ring " + slots + "a");
            e.range("takeOff 0 ?", 0, slots - 1, Edges.NO_SUCH);
        }
        for (int k = 1; k <= 5; k++) {
            char charm = KINDS.charAt(k);
            e.promise(9, "NOT_POSSIBLE if the slot is empty");
            e.given("ring -" + charm + "-" + charm);
            e.refused("takeOff 0 0", Edges.NOT_POSSIBLE);
            e.refused("takeOff 0 2", Edges.NOT_POSSIBLE);
            e.promise(9, "returns the kind of the charm");
            e.taken("takeOff 0 1", k);
            e.taken("takeOff 0 3", k);
            e.leaves("takeOff 0 1", 0, "---" + charm);
            e.given("ring 4" + charm, "takeOff 0 1");
            e.refused("takeOff 0 1", Edges.NOT_POSSIBLE);
            e.promise(9, "NOT_POSSIBLE if the box contains 99 charms of this kind");
            e.given("ring abcde3-", "fill " + k + " 99");
            e.refused("takeOff 0 " + (k - 1), Edges.NOT_POSSIBLE);
            e.taken("takeOff 0 " + k % 5, k % 5 + 1);
            e.given("ring abcde3-", "fill " + k + " 98");
            e.taken("takeOff 0 " + (k - 1), k);
            e.given("ring abcde3-", "fill " + k + " 98", "takeOff 0 " + (k - 1));
            e.asked("kind " + k + " 0", 99);
        }
        e.promise(9, "NO_SUCH ahead of NOT_POSSIBLE");
        e.given("ring 4a", "fill 1 99");
        e.refused("takeOff 0 4", Edges.NO_SUCH);
        e.refused("takeOff 1 0", Edges.NO_SUCH);
    }

    private void swap() {
        e.promise(10, "NO_SUCH if there is no such bracelet");
        e.rangeOfBracelets("swap ? 0 3", "ab2-");
        e.promise(10, "NO_SUCH if there is no such slot");
        for (int slots : Edges.SIZES) {
            e.given("make " + slots);
            e.range("swap 0 ? 0", 0, slots - 1, Edges.NO_SUCH);
            e.range("swap 0 0 ?", 0, slots - 1, Edges.NO_SUCH);
            for (int s = 0; s < slots; s++) {
                e.promise(10, "possibly the same");
                e.given("ring " + single(slots, s));
                e.taken("swap 0 " + s + " " + s, 2);
                e.leaves("swap 0 " + s + " " + s, 0, single(slots, s));
                e.promise(10, "exchanges what is in two slots");
                e.taken("swap 0 " + s + " " + (slots - 1 - s), 2);
                e.leaves("swap 0 " + s + " " + (slots - 1 - s), 0, single(slots, slots - 1 - s));
            }
        }
        e.promise(10, "exchanges what is in two slots");
        e.given("ring abcd");
        e.leaves("swap 0 0 3", 0, "dbca");
        e.leaves("swap 0 3 0", 0, "dbca");
        e.leaves("swap 0 1 2", 0, "acbd");
        e.promise(10, "returns the lean then");
        e.taken("swap 0 0 0", 4 + 4);
        e.taken("swap 0 0 1", 2 + 6);
        e.taken("swap 0 0 3", 2 + 2);
        e.taken("swap 0 2 0", 4 + 4);
    }

    private void roll() {
        e.promise(11, "NO_SUCH if there is no such bracelet");
        e.rangeOfBracelets("roll ? 1", "ab2-");
        for (int slots : Edges.SIZES) {
            e.promise(11, "slots: 0 to its number of slots - 1");
            e.given("ring ab" + (slots - 2) + "-");
            e.range("roll 0 ?", 0, slots - 1, Edges.BAD_VALUE);
            e.promise(11, "NO_SUCH ahead of BAD_VALUE");
            e.refused("roll 1 " + slots, Edges.NO_SUCH);
            e.refused("roll -1 -1", Edges.NO_SUCH);
            for (int s = 0; s < slots; s++) {
                e.given("ring " + single(slots, s));
                for (int k = 0; k < slots; k++) {
                    e.promise(11, "from the slot s to the slot (s + k) modulo n");
                    e.leaves("roll 0 " + k, 0, single(slots, (s + k) % slots));
                    e.promise(11, "returns the number of slots in which something else is then");
                    e.taken("roll 0 " + k, k == 0 ? 0 : 2);
                }
            }
        }
        e.promise(11, "returns the number of slots in which something else is then");
        e.given("ring abab");
        e.taken("roll 0 1", 4);
        e.taken("roll 0 2", 0);
        e.given("ring 4a");
        e.taken("roll 0 3", 0);
        e.given("ring abcabcabcabcabc-");
        e.taken("roll 0 1", 16);
        e.taken("roll 0 3", 4);
    }

    private void turn() {
        e.promise(12, "NO_SUCH if there is no such bracelet");
        e.rangeOfBracelets("turn ? 1", "ab2-");
        for (int slots : Edges.SIZES) {
            e.promise(12, "quarters: 0 to 3");
            e.given("ring ab" + (slots - 2) + "-");
            e.range("turn 0 ?", 0, 3, Edges.BAD_VALUE);
            e.promise(12, "NO_SUCH ahead of BAD_VALUE");
            e.refused("turn 1 4", Edges.NO_SUCH);
            e.refused("turn -1 -1", Edges.NO_SUCH);
            for (int s = 0; s < slots; s++) {
                e.given("ring " + single(slots, s));
                for (int t = 0; t < 4; t++) {
                    e.promise(12, "to turn it by t quarters is to roll it by t * n / 4");
                    e.leaves("turn 0 " + t, 0, single(slots, (s + t * slots / 4) % slots));
                    e.promise(12, "returns the number of slots in which something else is then");
                    e.taken("turn 0 " + t, t == 0 ? 0 : 2);
                }
            }
        }
        e.promise(12, "returns the number of slots in which something else is then");
        e.given("ring abababab");
        e.taken("turn 0 1", 0);
        e.given("ring 2a2b2a2b");
        e.taken("turn 0 1", 8);
        e.taken("turn 0 2", 0);
        e.taken("turn 0 3", 8);
    }

    private void mirror() {
        e.promise(13, "NO_SUCH if there is no such bracelet");
        e.rangeOfBracelets("mirror ?", "ab2-");
        for (int slots : Edges.SIZES) {
            for (int s = 0; s < slots; s++) {
                e.given("ring " + single(slots, s));
                e.promise(13, "from the slot s to the slot (n - s) modulo n");
                e.leaves("mirror 0", 0, single(slots, (slots - s) % slots));
                e.promise(13, "returns the number of slots in which something else is then");
                e.taken("mirror 0", s == 0 || s == slots / 2 ? 0 : 2);
            }
        }
        e.promise(13, "returns the number of slots in which something else is then");
        e.given("ring abcdcbcd");
        e.taken("mirror 0", 4);
        e.given("ring 4a");
        e.taken("mirror 0", 0);
        e.given("ring -7a8b");
        e.taken("mirror 0", 14);
    }

    private void bracelets() {
        e.promise(14, "bit i is 1 if there is a bracelet i");
        for (int set = 0; set < 64; set++) {
            String[] steps = SIX;
            for (int b = 0; b < 6; b++) {
                if ((set >> b & 1) == 0) {
                    steps = Edges.steps(steps, "remove " + b);
                }
            }
            e.given(steps);
            e.asked("bracelets", set);
        }
    }

    private void bracelet() {
        e.promise(15, "NO_SUCH if there is no such bracelet");
        for (int part = 0; part < 4; part++) {
            e.rangeOfBracelets("bracelet ? " + part, "4a");
        }
        e.promise(15, "part: 0 to 3");
        e.given("ring abcd");
        e.range("bracelet 0 ?", 0, 3, Edges.BAD_VALUE);
        e.promise(15, "NO_SUCH ahead of BAD_VALUE");
        e.refused("bracelet 1 4", Edges.NO_SUCH);
        e.refused("bracelet 6 -1", Edges.NO_SUCH);
        for (int slots : Edges.SIZES) {
            e.given("fill 5 16", "weigh 5 50", "ring " + slots + "e", "make " + slots);
            e.promise(15, "0 for its number of slots");
            e.asked("bracelet 0 0", slots);
            e.asked("bracelet 1 0", slots);
            e.promise(15, "1 for its number of charms");
            e.asked("bracelet 0 1", slots);
            e.asked("bracelet 1 1", 0);
            e.promise(15, "2 for its weight");
            e.asked("bracelet 0 2", 50 * slots);
            e.asked("bracelet 1 2", 0);
            e.promise(15, "3 for its lean");
            e.asked("bracelet 0 3", 0);
            e.asked("bracelet 1 3", 0);
            for (int s = 0; s < slots; s++) {
                e.given("weigh 1 50", "ring " + single(slots, s));
                e.asked("bracelet 0 3", 50);
            }
        }
        e.promise(15, "the lean is a sum of absolute values");
        e.given("weigh 5 50", "fill 5 19", "ring 8e8-", "ring 4-8e4-", "ring 8-ea2e4-");
        e.asked("bracelet 0 3", 400);
        e.asked("bracelet 1 3", 400);
        e.asked("bracelet 2 3", 152);
        e.given("ring d-ab", "ring abd-", "ring -abd", "ring bd-a");
        for (int b = 0; b < 4; b++) {
            e.asked("bracelet " + b + " 3", 6 + 4);
        }
    }

    private void slot() {
        e.promise(16, "NO_SUCH if there is no such bracelet");
        e.rangeOfBracelets("slot ? 0", "4a");
        e.promise(16, "NO_SUCH if there is no such slot");
        for (int slots : Edges.SIZES) {
            e.given("make " + slots);
            e.range("slot 0 ?", 0, slots - 1, Edges.NO_SUCH);
            e.refused("slot 1 " + (slots - 1), Edges.NO_SUCH);
        }
        e.promise(16, "no slot of a larger bracelet that had the number");
        e.given("ring 16-", "remove 0", "make 4");
        e.refused("slot 0 4", Edges.NO_SUCH);
        e.promise(16, "returns the kind, 0 if the slot is empty");
        e.given("ring a13-be", "ring -cd-");
        e.asked("slot 0 0", 1);
        e.asked("slot 0 1", 0);
        e.asked("slot 0 13", 0);
        e.asked("slot 0 14", 2);
        e.asked("slot 0 15", 5);
        e.asked("slot 1 0", 0);
        e.asked("slot 1 1", 3);
        e.asked("slot 1 2", 4);
        e.asked("slot 1 3", 0);
    }

    private void quarter() {
        e.promise(17, "NO_SUCH if there is no such bracelet");
        e.rangeOfBracelets("quarter ? 3", "4a");
        for (int slots : Edges.SIZES) {
            for (int s = 0; s < slots; s++) {
                e.given("ring " + single(slots, s));
                e.promise(17, "the slots from q * n / 4 to (q + 1) * n / 4 - 1");
                for (int q = 0; q < 4; q++) {
                    e.asked("quarter 0 " + q, q == s / (slots / 4) ? 2 : 0);
                }
            }
            e.promise(17, "NO_SUCH if there is no such quarter");
            e.range("quarter 0 ?", 0, 3, Edges.NO_SUCH);
            e.promise(17, "returns the weight");
            e.given("fill 5 16", "weigh 5 50", "ring " + slots + "e");
            e.asked("quarter 0 0", 50 * slots / 4);
            e.asked("quarter 0 3", 50 * slots / 4);
        }
    }
}
