/** Promises 18 to 23: alike, least, orbit, fixed, distance, classes. */
public final class AlikeTest {
    private static final Check check = new Check();

    public static void main(String[] args) {
        alike();
        least();
        orbit();
        fixed();
        distance();
        classes();
        classesWrong();
        check.finish();
    }

    private static void alikeAtLevels(CharmBracelets x, int other, int want0, int want1, int want2) {
        int[] wants = {want0, want1, want2};
        for (int level = 0; level < 3; level++) {
            check.due("alike(0, " + other + ", " + level + ")", x.alike(0, other, level), wants[level]);
            check.due("alike(" + other + ", 0, " + level + ")", x.alike(other, 0, level), wants[level]);
        }
    }

    private static void alike() {
        CharmBracelets x = new CharmBracelets();
        Check.read(x, "abc5-");
        Check.read(x, "2-abc3-");
        Check.read(x, "-abc4-");
        Check.read(x, "3-cba2-");
        Check.read(x, "abc9-");
        Check.read(x, "abd5-");
        alikeAtLevels(x, 0, 1, 1, 1);
        alikeAtLevels(x, 1, 1, 1, 1);
        alikeAtLevels(x, 2, 0, 1, 1);
        alikeAtLevels(x, 3, 0, 0, 1);
        alikeAtLevels(x, 4, 0, 0, 0);
        alikeAtLevels(x, 5, 0, 0, 0);
        x.remove(5);
        check.due("alike(0, 5, 0)", x.alike(0, 5, 0), -1);
        check.due("alike(5, 0, 0)", x.alike(5, 0, 0), -1);
        check.due("alike(0, -1, 0)", x.alike(0, -1, 0), -1);
        check.due("alike(6, 0, 0)", x.alike(6, 0, 0), -1);
        check.due("alike(0, 5, 3), the bracelet first", x.alike(0, 5, 3), -1);
        check.due("alike(0, 1, 3)", x.alike(0, 1, 3), -2);
        check.due("alike(0, 1, -1)", x.alike(0, 1, -1), -2);
        check.due("alike(0, 4, 3), also of other sizes", x.alike(0, 4, 3), -2);
    }

    private static String leastForm(CharmBracelets x, int bracelet, int level) {
        StringBuilder text = new StringBuilder();
        for (int s = 0; s < x.bracelet(bracelet, 0); s++) {
            text.append(x.least(bracelet, level, s));
        }
        return text.toString();
    }

    private static void least() {
        CharmBracelets x = new CharmBracelets();
        Check.read(x, "cbae-abe");
        check.same("least form at level 0", leastForm(x, 0, 0), "01253215");
        check.same("least form at level 1", leastForm(x, 0, 1), "01253215");
        check.same("least form at level 2", leastForm(x, 0, 2), "01253215");
        Check.read(x, "ba-c");
        check.same("least form at level 0", leastForm(x, 1, 0), "0321");
        check.same("least form at level 2", leastForm(x, 1, 2), "0123");
        Check.read(x, "d-cb4ae-2d");
        check.same("least form at level 0", leastForm(x, 2, 0), "044403211115");
        check.same("least form at level 1", leastForm(x, 2, 1), "032111150444");
        check.same("least form at level 2", leastForm(x, 2, 2), "032111150444");
        Check.read(x, "4b");
        check.same("least form at level 1", leastForm(x, 3, 1), "2222");
        check.due("least(0, 0, 8)", x.least(0, 0, 8), -1);
        check.due("least(0, 0, -1)", x.least(0, 0, -1), -1);
        check.due("least(1, 0, 4)", x.least(1, 0, 4), -1);
        check.due("least(4, 0, 0)", x.least(4, 0, 0), -1);
        check.due("least(0, 3, 0)", x.least(0, 3, 0), -2);
        check.due("least(0, -1, 0)", x.least(0, -1, 0), -2);
        check.due("least(0, 3, 8), the slot first", x.least(0, 3, 8), -1);
        check.same("the ring itself", Check.slots(x, 1), "ba-c");
    }

    private static void orbitAtLevels(String text, int want0, int want1, int want2) {
        CharmBracelets x = new CharmBracelets();
        x.fill(1, 99);
        Check.read(x, text);
        check.due("orbit(0, 0) of " + text, x.orbit(0, 0), want0);
        check.due("orbit(0, 1) of " + text, x.orbit(0, 1), want1);
        check.due("orbit(0, 2) of " + text, x.orbit(0, 2), want2);
    }

    private static void orbit() {
        orbitAtLevels("4a", 1, 1, 1);
        orbitAtLevels("16a", 1, 1, 1);
        orbitAtLevels("16-", 1, 1, 1);
        orbitAtLevels("abab", 2, 2, 2);
        orbitAtLevels("abababab", 1, 2, 2);
        orbitAtLevels("a7-", 4, 8, 8);
        orbitAtLevels("2a6-", 4, 8, 8);
        orbitAtLevels("ab6-", 4, 8, 16);
        orbitAtLevels("abc5-", 4, 8, 16);
        orbitAtLevels("a-b-c-d-", 4, 8, 16);
        orbitAtLevels("abc-abc-abc-abc-", 1, 4, 8);
        orbitAtLevels("2abc2abc2abc", 4, 4, 8);
        orbitAtLevels("ab-c12-", 4, 16, 32);
        CharmBracelets x = new CharmBracelets();
        x.make(4);
        check.due("orbit(1, 0)", x.orbit(1, 0), -1);
        check.due("orbit(0, 3)", x.orbit(0, 3), -2);
        check.due("orbit(0, -1)", x.orbit(0, -1), -2);
        check.due("orbit(1, 3), the bracelet first", x.orbit(1, 3), -1);
    }

    private static void fixed() {
        CharmBracelets x = new CharmBracelets();
        Check.read(x, "8-");
        Check.read(x, "abcdabcd");
        Check.read(x, "-a-a-a-a");
        Check.read(x, "abcd");
        Check.read(x, "2a2b2a2b");
        check.due("fixed(0)", x.fixed(0), 15);
        check.due("fixed(1)", x.fixed(1), 5);
        check.due("fixed(2)", x.fixed(2), 15);
        check.due("fixed(3)", x.fixed(3), 1);
        check.due("fixed(4)", x.fixed(4), 5);
        check.due("fixed(5)", x.fixed(5), -1);
        check.due("fixed(-1)", x.fixed(-1), -1);
    }

    private static void distance() {
        CharmBracelets x = new CharmBracelets();
        Check.read(x, "abcd4-");
        Check.read(x, "2-dcba2-");
        Check.read(x, "2-dcea2-");
        Check.read(x, "8b");
        Check.read(x, "16-");
        check.due("distance(0, 0)", x.distance(0, 0), 0);
        check.due("distance(0, 1), mirrored", x.distance(0, 1), 0);
        check.due("distance(0, 2)", x.distance(0, 2), 1);
        check.due("distance(2, 0)", x.distance(2, 0), 1);
        check.due("distance(0, 3)", x.distance(0, 3), 7);
        check.due("distance(0, 4)", x.distance(0, 4), -6);
        check.due("distance(4, 0)", x.distance(4, 0), -6);
        check.due("distance(0, 5)", x.distance(0, 5), -1);
        check.due("distance(5, 0)", x.distance(5, 0), -1);
        check.due("distance(-1, 0)", x.distance(-1, 0), -1);
        CharmBracelets y = new CharmBracelets();
        Check.read(y, "4a");
        Check.read(y, "4b");
        check.due("distance(0, 1), nothing is equal", y.distance(0, 1), 4);
    }

    /** Counts the classes by marking what the changes make of each ring that is not marked yet. */
    private static long counted(int slots, int kinds, int level) {
        int rings = 1;
        for (int i = 0; i < slots; i++) {
            rings *= kinds;
        }
        boolean[] marked = new boolean[rings];
        int step = level == 0 ? slots / 4 : 1;
        long classes = 0;
        int[] ring = new int[slots];
        for (int r = 0; r < rings; r++) {
            if (marked[r]) {
                continue;
            }
            classes++;
            for (int s = slots - 1, rest = r; s >= 0; s--, rest /= kinds) {
                ring[s] = rest % kinds;
            }
            for (int k = 0; k < slots; k += step) {
                marked[number(ring, k, 1, kinds)] = true;
                if (level == 2) {
                    marked[number(ring, k, -1, kinds)] = true;
                }
            }
        }
        return classes;
    }

    private static int number(int[] ring, int from, int direction, int kinds) {
        int number = 0;
        for (int i = 0; i < ring.length; i++) {
            number = number * kinds + ring[Math.floorMod(from + direction * i, ring.length)];
        }
        return number;
    }

    private static void classes() {
        CharmBracelets x = new CharmBracelets();
        int[][] most = {{4, 5}, {8, 5}, {12, 3}, {16, 2}};
        for (int[] row : most) {
            for (int kinds = 1; kinds <= row[1]; kinds++) {
                for (int level = 0; level <= 2; level++) {
                    check.due("classes(" + row[0] + ", " + kinds + ", " + level + ")",
                            x.classes(row[0], kinds, level), counted(row[0], kinds, level));
                }
            }
        }
        check.due("classes(4, 2, 1)", x.classes(4, 2, 1), 6);
        check.due("classes(8, 2, 2)", x.classes(8, 2, 2), 30);
        // (5^16 + 5^8 + 2 * 5^4) / 4, beyond the range of int
        check.due("classes(16, 5, 0)", x.classes(16, 5, 0), 38147070625L);
        check.due("classes(16, 5, 1)", x.classes(16, 5, 1), 9536767665L);
        // half of that, and a quarter of 5^9 + 5^8
        check.due("classes(16, 5, 2)", x.classes(16, 5, 2), (9536767665L + (1953125 + 390625) / 2) / 2);
        check.due("classes(12, 5, 1)", x.classes(12, 5, 1),
                (244140625L + 15625 + 2 * 625 + 2 * 125 + 2 * 25 + 4 * 5) / 12);
    }

    private static void classesWrong() {
        CharmBracelets x = new CharmBracelets();
        int[] wrongSlots = {0, 3, 5, 6, 20, -4, Integer.MIN_VALUE, Integer.MAX_VALUE};
        for (int slots : wrongSlots) {
            check.due("classes(" + slots + ", 2, 1)", x.classes(slots, 2, 1), -2);
        }
        check.due("classes(4, 0, 1)", x.classes(4, 0, 1), -2);
        check.due("classes(4, 6, 1)", x.classes(4, 6, 1), -2);
        check.due("classes(4, -1, 1)", x.classes(4, -1, 1), -2);
        check.due("classes(4, 2, 3)", x.classes(4, 2, 3), -2);
        check.due("classes(4, 2, -1)", x.classes(4, 2, -1), -2);
        check.due("undo(), classes is not undoable", x.undo(), -3);
    }
}
