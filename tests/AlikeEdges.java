/** The edges of promises 18 to 23: alike, least, orbit, fixed, distance, classes. */
final class AlikeEdges {
    private final Edges e;

    AlikeEdges(Edges edges) {
        e = edges;
    }

    void all() {
        alikeWrong();
        alikeSizes();
        alikeLevels();
        leastWrong();
        least();
        orbit();
        fixed();
        distanceWrong();
        distance();
        classesWrong();
        classes();
    }

    /** The charms at the beginning of a ring that is empty otherwise. */
    static String begin(String charms, int slots) {
        return charms + "-".repeat(slots - charms.length());
    }

    private void alikeWrong() {
        e.promise(18, "NO_SUCH if there is no such bracelet");
        e.rangeOfBracelets("alike ? 0 0", "abcd");
        e.rangeOfBracelets("alike 5 ? 0", "abcd");
        e.promise(18, "level: 0 to 2");
        e.given("make 4", "make 8");
        e.range("alike 0 0 ?", 0, 2, Edges.BAD_VALUE);
        e.range("alike 0 1 ?", 0, 2, Edges.BAD_VALUE);
        e.promise(18, "NO_SUCH ahead of BAD_VALUE");
        e.refused("alike 0 2 3", Edges.NO_SUCH);
        e.refused("alike 2 0 3", Edges.NO_SUCH);
        e.refused("alike 6 -1 -1", Edges.NO_SUCH);
    }

    private void alikeSizes() {
        e.promise(18, "the same number of slots");
        String[] fills = {"-", "a"};
        for (String fill : fills) {
            e.given("fill 1 50", "ring 4" + fill, "ring 8" + fill, "ring 12" + fill, "ring 16" + fill);
            for (int i = 0; i < 4; i++) {
                for (int j = 0; j < 4; j++) {
                    for (int level = 0; level < 3; level++) {
                        e.asked("alike " + i + " " + j + " " + level, i == j ? 1 : 0);
                    }
                }
            }
        }
    }

    private void alikeLevels() {
        for (int n : Edges.SIZES) {
            for (int k = 0; k < n; k++) {
                e.given("ring " + begin("abc", n), "copy 0", "roll 1 " + k);
                e.promise(18, "level 0 are the 4 turns by 0 to 3 quarters");
                e.asked("alike 0 1 0", k % (n / 4) == 0 ? 1 : 0);
                e.asked("alike 1 0 0", k % (n / 4) == 0 ? 1 : 0);
                e.promise(18, "level 1 are the n rolls by 0 to n - 1");
                e.asked("alike 0 1 1", 1);
                e.promise(18, "level 2 are these rolls as well");
                e.asked("alike 0 1 2", 1);
                e.promise(18, "level 2 are the mirroring followed by each roll");
                e.given("ring " + begin("abc", n), "copy 0", "mirror 1", "roll 1 " + k);
                e.asked("alike 0 1 0", 0);
                e.asked("alike 0 1 1", 0);
                e.asked("alike 0 1 2", 1);
                e.asked("alike 1 0 2", 1);
            }
            for (int s = 0; s < n; s++) {
                e.promise(18, "not alike if one slot differs");
                e.given("ring " + n + "-", "ring " + BraceletEdges.single(n, s));
                e.asked("alike 0 1 0", 0);
                e.asked("alike 0 1 1", 0);
                e.asked("alike 1 0 2", 0);
            }
        }
        e.promise(18, "not alike with the same charms in another order");
        e.given("ring 2ab-", "ring abacb3-", "ring acbab3-", "ring abcd", "ring acbd");
        e.asked("alike 1 2 2", 0);
        e.asked("alike 3 4 2", 0);
    }

    private void leastWrong() {
        e.promise(19, "NO_SUCH if there is no such bracelet");
        e.rangeOfBracelets("least ? 2 0", "abcd");
        e.promise(19, "NO_SUCH if there is no such slot");
        for (int n : Edges.SIZES) {
            e.given("make " + n);
            for (int level = 0; level < 3; level++) {
                e.range("least 0 " + level + " ?", 0, n - 1, Edges.NO_SUCH);
            }
            e.promise(19, "level: 0 to 2");
            e.range("least 0 ? " + (n - 1), 0, 2, Edges.BAD_VALUE);
            e.promise(19, "NO_SUCH ahead of BAD_VALUE");
            e.refused("least 0 3 " + n, Edges.NO_SUCH);
            e.refused("least 0 -1 -1", Edges.NO_SUCH);
            e.refused("least 1 3 0", Edges.NO_SUCH);
        }
    }

    private void leastForms(String text, String... forms) {
        e.given("ring " + text);
        for (int level = 0; level < 3; level++) {
            for (int s = 0; s < forms[level].length(); s++) {
                e.asked("least 0 " + level + " " + s, forms[level].charAt(s) - '0');
            }
        }
    }

    private void least() {
        e.promise(19, "the levels 0, 1 and 2 of the changes");
        leastForms("ba--", "0021", "0021", "0012");
        leastForms("ba6-", "00000021", "00000021", "00000012");
        leastForms("-ba5-", "00000210", "00000021", "00000012");
        leastForms("ba10-", "000000000210", "000000000021", "000000000012");
        leastForms("ba14-", "0000000000002100", "0000000000000021", "0000000000000012");
        e.promise(19, "the lower kind in the first slot in which they differ");
        leastForms("3ab", "1112", "1112", "1112");
        leastForms("b3a", "1112", "1112", "1112");
        leastForms("aaabaaaa", "11111112", "11111112", "11111112");
        leastForms("a-ab", "0121", "0121", "0121");
        leastForms("-e-d", "0405", "0405", "0405");
        leastForms("ed2c", "3354", "3354", "3345");
        leastForms("2-b2-a2-", "00002001", "00002001", "00001002");
        leastForms("4-", "0000", "0000", "0000");
        leastForms("4e", "5555", "5555", "5555");
    }

    private void orbits(String text, int want0, int want1, int want2) {
        e.given("ring " + text);
        e.asked("orbit 0 0", want0);
        e.asked("orbit 0 1", want1);
        e.asked("orbit 0 2", want2);
    }

    private void orbit() {
        e.promise(20, "NO_SUCH if there is no such bracelet");
        e.rangeOfBracelets("orbit ? 1", "abcd");
        e.promise(20, "level: 0 to 2");
        e.given("make 4");
        e.range("orbit 0 ?", 0, 2, Edges.BAD_VALUE);
        e.promise(20, "NO_SUCH ahead of BAD_VALUE");
        e.refused("orbit 1 3", Edges.NO_SUCH);
        e.refused("orbit -1 -1", Edges.NO_SUCH);
        for (int n : Edges.SIZES) {
            e.promise(20, "the most different rings: 4, n and 2 * n");
            orbits(begin("abc", n), 4, n, 2 * n);
            e.promise(20, "the mirrored rings are among the rolled ones");
            orbits(begin("a", n), 4, n, n);
            orbits(begin("aba", n), 4, n, n);
            e.promise(20, "one ring alone");
            orbits(n + "-", 1, 1, 1);
        }
        e.promise(20, "different rings are counted once");
        orbits("abab", 2, 2, 2);
        orbits("2a2b2a2b", 2, 4, 4);
        orbits("abababab", 1, 2, 2);
        orbits("abc-abc-", 2, 4, 8);
        orbits("ab-ab-ab-ab-", 1, 3, 6);
        orbits("2b-2b-2b-2b-", 1, 3, 3);
        orbits("a3-a3-a3-a3-", 1, 4, 4);
        orbits("abc5-abc5-", 2, 8, 16);
        orbits("ab-ab-ab-ab-ab--", 4, 16, 32);
    }

    private void fixed() {
        e.promise(21, "NO_SUCH if there is no such bracelet");
        e.rangeOfBracelets("fixed ?", "abcd");
        e.promise(21, "bit t is 1 if a turn by t quarters is in it");
        for (int n : Edges.SIZES) {
            e.given("ring " + n + "-", "ring " + begin("a", n), "ring " + begin("-".repeat(n - 1) + "a", n),
                    "ring " + begin("a", n / 2) + begin("a", n / 2));
            e.asked("fixed 0", 15);
            e.asked("fixed 1", 1);
            e.asked("fixed 2", 1);
            e.asked("fixed 3", 5);
        }
        e.given("ring abab", "ring abababab", "ring 2-a2-a2-a2-a", "ring 2-c2-d2-c2-d");
        e.asked("fixed 0", 5);
        e.asked("fixed 1", 15);
        e.asked("fixed 2", 15);
        e.asked("fixed 3", 5);
    }

    private void distanceWrong() {
        e.promise(22, "NO_SUCH if there is no such bracelet");
        e.rangeOfBracelets("distance ? 0", "abcd");
        e.rangeOfBracelets("distance 5 ?", "abcd");
        e.promise(22, "NONE if they have different numbers of slots");
        e.given("make 4", "make 8", "make 12", "make 16");
        for (int i = 0; i < 4; i++) {
            for (int j = 0; j < 4; j++) {
                e.asked("distance " + i + " " + j, i == j ? 0 : Edges.NONE);
            }
            e.promise(22, "NO_SUCH ahead of NONE");
            e.refused("distance " + i + " 4", Edges.NO_SUCH);
            e.refused("distance 6 " + i, Edges.NO_SUCH);
        }
    }

    private void distance() {
        for (int n : Edges.SIZES) {
            for (int k = 0; k < n; k++) {
                e.promise(22, "any change of level 2");
                e.given("ring " + begin("abc", n), "copy 0", "roll 1 " + k, "copy 1", "mirror 2");
                e.asked("distance 0 1", 0);
                e.asked("distance 0 2", 0);
                e.asked("distance 2 0", 0);
                e.promise(22, "the least number of slots in which they differ");
                e.given("ring " + begin("abc", n), "ring " + begin("abd", n), "roll 1 " + k, "copy 1", "mirror 2");
                e.asked("distance 0 1", 1);
                e.asked("distance 0 2", 1);
                e.asked("distance 2 0", 1);
            }
            e.promise(22, "they may differ in each slot");
            e.given("fill 1 16", "ring " + n + "a", "ring " + n + "-");
            e.asked("distance 0 1", n);
            e.asked("distance 1 0", n);
            e.given("fill 1 16", "ring " + (n - 1) + "ab", "ring " + n + "-", "ring b" + (n - 1) + "-");
            e.asked("distance 0 1", n);
            e.asked("distance 0 2", n - 1);
        }
    }

    private void classesWrong() {
        e.given("make 4", "make 8");
        e.promise(23, "slots: 4, 8, 12 or 16");
        for (int slots = -20; slots <= 40; slots++) {
            if (slots < 4 || slots > 16 || slots % 4 != 0) {
                e.refused("classes " + slots + " 1 0", Edges.BAD_VALUE);
            }
        }
        e.outside("classes ? 1 0", Edges.BAD_VALUE, "1000");
        for (int slots : Edges.SIZES) {
            e.promise(23, "kinds: 1 to 5");
            e.range("classes " + slots + " ? 1", 1, 5, Edges.BAD_VALUE);
            e.promise(23, "level: 0 to 2");
            e.range("classes " + slots + " 2 ?", 0, 2, Edges.BAD_VALUE);
        }
        e.refused("classes 5 0 3", Edges.BAD_VALUE);
    }

    private void classes() {
        e.given();
        e.promise(23, "only the kind 1 is used");
        for (int slots : Edges.SIZES) {
            for (int level = 0; level < 3; level++) {
                e.asked("classes " + slots + " 1 " + level, 1);
            }
        }
        e.promise(23, "which are alike at which level");
        e.asked("classes 4 2 0", 6);
        e.asked("classes 4 2 1", 6);
        e.asked("classes 4 2 2", 6);
        e.asked("classes 4 3 1", 24);
        e.asked("classes 4 3 2", 21);
        e.asked("classes 8 2 0", (256 + 2 * 4 + 16) / 4);
        e.asked("classes 8 2 1", 36);
        e.asked("classes 8 2 2", 30);
        e.asked("classes 12 2 1", 352);
        e.asked("classes 12 2 2", 224);
        e.asked("classes 16 2 1", 4116);
        e.asked("classes 16 2 2", 2250);
        e.promise(23, "with 5 kinds and 16 slots, more than an int holds");
        e.asked("classes 16 5 0", 38147070625L);
        e.asked("classes 16 5 1", 9536767665L);
        e.asked("classes 16 5 2", 4768969770L);
        e.asked("classes 4 5 0", (625 + 2 * 5 + 25) / 4);
        e.asked("classes 4 5 2", 120);
    }
}
