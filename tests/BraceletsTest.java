/** Promises 5 to 17: making, copying and removing bracelets, their charms, changes and weights. */
public final class BraceletsTest {
    private static final Check check = new Check();

    public static void main(String[] args) {
        make();
        copy();
        remove();
        hang();
        takeOff();
        swap();
        roll();
        turn();
        mirror();
        bracelets();
        bracelet();
        slot();
        quarter();
        check.finish();
    }

    private static void make() {
        CharmBracelets x = new CharmBracelets();
        int[] wrong = {0, 3, 5, 6, 14, 17, 20, -4, -8, Integer.MIN_VALUE, Integer.MAX_VALUE};
        for (int slots : wrong) {
            check.due("make(" + slots + ")", x.make(slots), -2);
        }
        check.due("make(4)", x.make(4), 0);
        check.due("make(8)", x.make(8), 1);
        check.due("make(12)", x.make(12), 2);
        check.due("make(16)", x.make(16), 3);
        check.same("the new ring", Check.slots(x, 3), "----------------");
        check.same("the new ring", Check.slots(x, 0), "----");
        x.remove(1);
        x.remove(0);
        check.due("make(16), lowest free number", x.make(16), 0);
        check.due("make(16), lowest free number", x.make(16), 1);
        check.due("make(4)", x.make(4), 4);
        check.due("make(4)", x.make(4), 5);
        check.due("make(4), a seventh", x.make(4), -4);
        check.due("make(5), BAD_VALUE first", x.make(5), -2);
        check.due("bracelets()", x.bracelets(), 63);
    }

    private static void copy() {
        CharmBracelets x = new CharmBracelets();
        Check.read(x, "2abc-ab2-e2d");
        check.due("copy(0)", x.copy(0), 1);
        check.same("the copy", Check.slots(x, 1), "aabc-ab--edd");
        check.same("the other one", Check.slots(x, 0), "aabc-ab--edd");
        check.due("kind(1, 0)", x.kind(1, 0), 6);
        check.due("kind(4, 0)", x.kind(4, 0), 8);
        x.hang(1, 4, 5);
        check.due("slot(0, 4), of the original", x.slot(0, 4), 0);
        x.fill(5, 0);
        check.due("copy(0), no e", x.copy(0), -3);
        x.fill(5, 1);
        x.fill(1, 2);
        check.due("copy(0), an a too few", x.copy(0), -3);
        check.due("kind(5, 0), nothing was taken", x.kind(5, 0), 1);
        x.fill(1, 3);
        check.due("copy(0), just enough", x.copy(0), 2);
        check.due("kind(1, 0)", x.kind(1, 0), 0);
        check.due("kind(5, 0)", x.kind(5, 0), 0);
        x.fill(5, 0);
        check.due("read(), no e left", Check.read(x, "e3-"), -3);
        check.due("copy(3)", x.copy(3), -1);
        check.due("copy(-1)", x.copy(-1), -1);
        check.due("copy(6)", x.copy(6), -1);
        check.due("make(4)", x.make(4), 3);
        check.due("copy(3), an empty one needs no charms", x.copy(3), 4);
        x.remove(1);
        check.due("copy(3), lowest free number", x.copy(3), 1);
        x.make(4);
        check.due("copy(3), a seventh", x.copy(3), -4);
        x.fill(1, 0);
        check.due("copy(0), a seventh and no charms", x.copy(0), -3);
    }

    private static void remove() {
        CharmBracelets x = new CharmBracelets();
        Check.read(x, "3a-");
        Check.read(x, "4b2c2-");
        check.due("remove(2)", x.remove(2), -1);
        check.due("remove(-1)", x.remove(-1), -1);
        check.due("remove(6)", x.remove(6), -1);
        x.fill(1, 97);
        check.due("remove(0), the box would have 100", x.remove(0), -3);
        check.same("what stays", Check.slots(x, 0), "aaa-");
        check.due("kind(1, 0)", x.kind(1, 0), 97);
        x.fill(1, 96);
        check.due("remove(0), the box has 99 then", x.remove(0), 3);
        check.due("kind(1, 0)", x.kind(1, 0), 99);
        check.due("bracelets()", x.bracelets(), 2);
        check.due("slot(0, 0)", x.slot(0, 0), -1);
        check.due("remove(0), again", x.remove(0), -1);
        x.fill(3, 98);
        check.due("remove(1), only c are too many", x.remove(1), -3);
        check.due("kind(2, 0), nothing was put back", x.kind(2, 0), 8);
        x.fill(3, 0);
        check.due("remove(1)", x.remove(1), 6);
        check.due("kind(2, 0)", x.kind(2, 0), 12);
        check.due("kind(3, 0)", x.kind(3, 0), 2);
        check.due("make(4)", x.make(4), 0);
        check.same("a number used again", Check.slots(x, 0), "----");
        Check.read(x, "abcde3-");
        for (int k = 1; k <= 5; k++) {
            x.fill(k, 99);
            check.due("remove(1), the box would have 100 of kind " + k, x.remove(1), -3);
            x.fill(k, 11);
        }
        check.due("remove(1)", x.remove(1), 5);
        for (int k = 1; k <= 5; k++) {
            check.due("kind(" + k + ", 0)", x.kind(k, 0), 12);
        }
        check.due("remove(0), without charms", x.remove(0), 0);
    }

    private static void hang() {
        CharmBracelets x = new CharmBracelets();
        x.make(4);
        x.make(16);
        check.due("hang(0, 3, 5)", x.hang(0, 3, 5), 11);
        check.due("hang(1, 15, 5)", x.hang(1, 15, 5), 10);
        check.same("the ring", Check.slots(x, 0), "---e");
        check.same("the ring", Check.slots(x, 1), "---------------e");
        check.due("hang(0, 4, 1)", x.hang(0, 4, 1), -1);
        check.due("hang(0, -1, 1)", x.hang(0, -1, 1), -1);
        check.due("hang(1, 16, 1)", x.hang(1, 16, 1), -1);
        check.due("hang(2, 0, 1)", x.hang(2, 0, 1), -1);
        check.due("hang(-1, 0, 1)", x.hang(-1, 0, 1), -1);
        check.due("hang(0, 0, 0)", x.hang(0, 0, 0), -1);
        check.due("hang(0, 0, 6)", x.hang(0, 0, 6), -1);
        check.due("hang(0, 0, ANY)", x.hang(0, 0, CharmBracelets.ANY), -1);
        check.due("hang(0, 0, MIN)", x.hang(0, 0, Integer.MIN_VALUE), -1);
        check.due("hang(0, 3, 6), the kind first", x.hang(0, 3, 6), -1);
        check.due("hang(0, 3, 1), not empty", x.hang(0, 3, 1), -3);
        check.due("hang(0, 3, 5), not empty", x.hang(0, 3, 5), -3);
        x.fill(2, 1);
        check.due("hang(0, 0, 2), the last b", x.hang(0, 0, 2), 0);
        check.due("hang(0, 1, 2), no b", x.hang(0, 1, 2), -3);
        check.due("kind(2, 2)", x.kind(2, 2), 1);
        check.same("the ring", Check.slots(x, 0), "b--e");
    }

    private static void takeOff() {
        CharmBracelets x = new CharmBracelets();
        Check.read(x, "abc-");
        check.due("takeOff(0, 1)", x.takeOff(0, 1), 2);
        check.due("kind(2, 0)", x.kind(2, 0), 12);
        check.due("takeOff(0, 1), empty then", x.takeOff(0, 1), -3);
        check.due("takeOff(0, 3), empty", x.takeOff(0, 3), -3);
        check.due("takeOff(0, 4)", x.takeOff(0, 4), -1);
        check.due("takeOff(0, -1)", x.takeOff(0, -1), -1);
        check.due("takeOff(1, 0)", x.takeOff(1, 0), -1);
        check.due("takeOff(-1, 0)", x.takeOff(-1, 0), -1);
        x.fill(3, 99);
        check.due("takeOff(0, 2), a full box", x.takeOff(0, 2), -3);
        check.same("the ring", Check.slots(x, 0), "a-c-");
        x.fill(3, 98);
        check.due("takeOff(0, 2)", x.takeOff(0, 2), 3);
        check.due("kind(3, 0)", x.kind(3, 0), 99);
        check.same("the ring", Check.slots(x, 0), "a---");
    }

    private static void swap() {
        CharmBracelets x = new CharmBracelets();
        Check.read(x, "a-2e4-");
        // The quarters weigh 2, 20, 0 and 0.
        check.due("bracelet(0, 3)", x.bracelet(0, 3), 22);
        check.due("swap(0, 2, 7)", x.swap(0, 2, 7), 2);
        check.same("the ring", Check.slots(x, 0), "a--e---e");
        check.due("swap(0, 7, 0)", x.swap(0, 7, 0), 18);
        check.same("the ring", Check.slots(x, 0), "e--e---a");
        check.due("swap(0, 3, 3), the same", x.swap(0, 3, 3), 18);
        check.due("swap(0, 1, 2), two empty ones", x.swap(0, 1, 2), 18);
        check.same("the ring", Check.slots(x, 0), "e--e---a");
        check.due("swap(0, 0, 8)", x.swap(0, 0, 8), -1);
        check.due("swap(0, 8, 0)", x.swap(0, 8, 0), -1);
        check.due("swap(0, -1, 0)", x.swap(0, -1, 0), -1);
        check.due("swap(0, 0, -1)", x.swap(0, 0, -1), -1);
        check.due("swap(1, 0, 0)", x.swap(1, 0, 0), -1);
    }

    private static void roll() {
        CharmBracelets x = new CharmBracelets();
        Check.read(x, "abcd4-");
        check.due("roll(0, 0)", x.roll(0, 0), 0);
        check.due("roll(0, 1)", x.roll(0, 1), 5);
        check.same("the ring", Check.slots(x, 0), "-abcd---");
        check.due("roll(0, 7)", x.roll(0, 7), 5);
        check.same("the ring", Check.slots(x, 0), "abcd----");
        check.due("roll(0, 6)", x.roll(0, 6), 6);
        check.same("the ring", Check.slots(x, 0), "cd----ab");
        check.due("roll(0, 8)", x.roll(0, 8), -2);
        check.due("roll(0, -1)", x.roll(0, -1), -2);
        check.due("roll(1, 0)", x.roll(1, 0), -1);
        check.due("roll(1, 99), the bracelet first", x.roll(1, 99), -1);
        Check.read(x, "16-");
        check.due("roll(1, 15)", x.roll(1, 15), 0);
        check.due("roll(1, 16)", x.roll(1, 16), -2);
    }

    private static void turn() {
        CharmBracelets x = new CharmBracelets();
        Check.read(x, "abc9-");
        check.due("turn(0, 0)", x.turn(0, 0), 0);
        check.due("turn(0, 1)", x.turn(0, 1), 6);
        check.same("the ring", Check.slots(x, 0), "---abc------");
        check.due("turn(0, 3)", x.turn(0, 3), 6);
        check.same("the ring", Check.slots(x, 0), "abc---------");
        check.due("turn(0, 2)", x.turn(0, 2), 6);
        check.same("the ring", Check.slots(x, 0), "------abc---");
        check.due("turn(0, 4)", x.turn(0, 4), -2);
        check.due("turn(0, -1)", x.turn(0, -1), -2);
        check.due("turn(1, 0)", x.turn(1, 0), -1);
        check.due("turn(1, 4), the bracelet first", x.turn(1, 4), -1);
        Check.read(x, "abab");
        check.due("turn(1, 1)", x.turn(1, 1), 4);
        check.due("turn(1, 2)", x.turn(1, 2), 0);
        check.same("the ring", Check.slots(x, 1), "baba");
    }

    private static void mirror() {
        CharmBracelets x = new CharmBracelets();
        Check.read(x, "abcd4-");
        check.due("mirror(0)", x.mirror(0), 6);
        check.same("the ring, slot 0 stays", Check.slots(x, 0), "a----dcb");
        check.due("mirror(0)", x.mirror(0), 6);
        check.same("the ring", Check.slots(x, 0), "abcd----");
        Check.read(x, "abeb");
        check.due("mirror(1)", x.mirror(1), 0);
        check.due("mirror(2)", x.mirror(2), -1);
        check.due("mirror(-1)", x.mirror(-1), -1);
    }

    private static void bracelets() {
        CharmBracelets x = new CharmBracelets();
        check.due("bracelets()", x.bracelets(), 0);
        for (int i = 0; i < 6; i++) {
            x.make(4);
            check.due("bracelets()", x.bracelets(), (2 << i) - 1);
        }
        x.remove(2);
        x.remove(5);
        check.due("bracelets()", x.bracelets(), 63 - 4 - 32);
    }

    private static void bracelet() {
        CharmBracelets x = new CharmBracelets();
        Check.read(x, "a2b-c2-d-2e-");
        check.due("bracelet(0, 0)", x.bracelet(0, 0), 12);
        check.due("bracelet(0, 1)", x.bracelet(0, 1), 7);
        check.due("bracelet(0, 2)", x.bracelet(0, 2), 2 + 8 + 6 + 8 + 20);
        // The quarters abb, -c-, -d- and ee- weigh 10, 6, 8 and 20.
        check.due("bracelet(0, 3)", x.bracelet(0, 3), 2 + 14);
        check.due("bracelet(0, 4)", x.bracelet(0, 4), -2);
        check.due("bracelet(0, -1)", x.bracelet(0, -1), -2);
        check.due("bracelet(1, 0)", x.bracelet(1, 0), -1);
        check.due("bracelet(6, 0)", x.bracelet(6, 0), -1);
        check.due("bracelet(-1, 0)", x.bracelet(-1, 0), -1);
        check.due("bracelet(1, 4), the bracelet first", x.bracelet(1, 4), -1);
        check.due("bracelet(MIN, 0)", x.bracelet(Integer.MIN_VALUE, 0), -1);
        check.due("bracelet(MAX, 0)", x.bracelet(Integer.MAX_VALUE, 0), -1);
    }

    private static void slot() {
        CharmBracelets x = new CharmBracelets();
        Check.read(x, "abcde3-");
        for (int s = 0; s < 8; s++) {
            check.due("slot(0, " + s + ")", x.slot(0, s), s < 5 ? s + 1 : 0);
        }
        check.due("slot(0, 8)", x.slot(0, 8), -1);
        check.due("slot(0, -1)", x.slot(0, -1), -1);
        check.due("slot(0, MAX)", x.slot(0, Integer.MAX_VALUE), -1);
        check.due("slot(1, 0)", x.slot(1, 0), -1);
    }

    private static void quarter() {
        CharmBracelets x = new CharmBracelets();
        Check.read(x, "4a3b-2-2c3de");
        check.due("quarter(0, 0)", x.quarter(0, 0), 8);
        check.due("quarter(0, 1)", x.quarter(0, 1), 12);
        check.due("quarter(0, 2)", x.quarter(0, 2), 12);
        check.due("quarter(0, 3)", x.quarter(0, 3), 34);
        check.due("quarter(0, 4)", x.quarter(0, 4), -1);
        check.due("quarter(0, -1)", x.quarter(0, -1), -1);
        check.due("quarter(1, 0)", x.quarter(1, 0), -1);
        Check.read(x, "-abc");
        check.due("quarter(1, 0)", x.quarter(1, 0), 0);
        check.due("quarter(1, 3)", x.quarter(1, 3), 6);
    }
}
