/** The edges of promises 24 to 29: setMotif, sign, cutMotif, motif, motifAt, staysAt. */
final class MotifEdges {
    private static final String[] KINDS_AND_ANY = {"0", "1", "2", "3", "4", "5", "9"};
    private static final String[] NO_SIGNS = {"-1", "6", "7", "8", "10", "-9"};

    private final Edges e;

    MotifEdges(Edges edges) {
        e = edges;
    }

    void all() {
        setMotifWrong();
        setMotif();
        sign();
        cutMotif();
        motif();
        motifAt();
        motifAtSizes();
        staysAt();
    }

    /** Steps that make a motif of these signs. */
    static String[] signs(String signs) {
        String[] steps = new String[signs.length()];
        for (int i = 0; i < steps.length; i++) {
            steps[i] = "sign " + i + " " + signs.charAt(i);
        }
        return steps;
    }

    private void setMotifWrong() {
        e.promise(24, "NO_SUCH if there is no such bracelet");
        e.rangeOfBracelets("setMotif ? 0 1", "abcd");
        for (int n : Edges.SIZES) {
            int most = Math.min(n, 6);
            e.given(Edges.steps("ring ab" + (n - 2) + "-", signs("195")));
            e.promise(24, "NO_SUCH if there is no such slot");
            e.range("setMotif 0 ? 1", 0, n - 1, Edges.NO_SUCH);
            e.range("setMotif 0 ? " + most, 0, n - 1, Edges.NO_SUCH);
            e.promise(24, "signs: 1 to 6, at most the number of slots of the bracelet");
            e.range("setMotif 0 0 ?", 1, most, Edges.BAD_VALUE);
            e.range("setMotif 0 " + (n - 1) + " ?", 1, most, Edges.BAD_VALUE);
            e.refused("setMotif 0 0 7", Edges.BAD_VALUE);
            e.promise(24, "NO_SUCH ahead of BAD_VALUE");
            e.refused("setMotif 0 " + n + " 7", Edges.NO_SUCH);
            e.refused("setMotif 0 -1 0", Edges.NO_SUCH);
            e.refused("setMotif 1 0 0", Edges.NO_SUCH);
        }
        e.promise(24, "signs: at most the number of slots of the bracelet");
        e.given("make 4", "make 8");
        e.refused("setMotif 0 0 5", Edges.BAD_VALUE);
        e.refused("setMotif 0 0 6", Edges.BAD_VALUE);
        e.taken("setMotif 1 0 5", 8);
        e.taken("setMotif 1 0 6", 8);
    }

    private void setMotif() {
        for (int n : Edges.SIZES) {
            e.promise(24, "of the least form at level 1");
            e.given("ring " + AlikeEdges.begin("-ba", n));
            e.leavesMotif("setMotif 0 " + (n - 2) + " 2", "21");
            e.promise(24, "slot 0 follows the last slot");
            e.leavesMotif("setMotif 0 " + (n - 1) + " 1", "1");
            e.leavesMotif("setMotif 0 " + (n - 1) + " 2", "10");
            e.leavesMotif("setMotif 0 " + (n - 2) + " 4", "2100");
            e.leavesMotif("setMotif 0 " + (n - 1) + " 4", n == 4 ? "1002" : "1000");
            e.leavesMotif("setMotif 0 0 4", n == 4 ? "0021" : "0000");
            e.promise(24, "returns the number of slots of the bracelet at which the motif is");
            e.taken("setMotif 0 " + (n - 2) + " 2", 1);
            e.taken("setMotif 0 " + (n - 1) + " 1", 1);
            e.taken("setMotif 0 0 1", n - 2);
            e.taken("setMotif 0 0 2", n - 3);
            e.given("make " + n);
            e.taken("setMotif 0 0 " + Math.min(n, 6), n);
        }
        e.promise(24, "the motif from now on, shorter or longer than the one before");
        e.given(Edges.steps("ring abcd", signs("999999")));
        e.leavesMotif("setMotif 0 3 1", "4");
        e.leavesMotif("setMotif 0 3 4", "4123");
        e.given(Edges.steps("ring abcdeaa-", signs("9")));
        e.leavesMotif("setMotif 0 0 6", "012345");
        e.leavesMotif("setMotif 0 7 6", "101234");
        e.promise(24, "the bracelet stays");
        e.leaves("setMotif 0 7 6", 0, "abcdeaa-");
    }

    private void sign() {
        for (int length = 0; length <= 6; length++) {
            e.given(Edges.steps("ring abcd", signs("591049".substring(0, length))));
            e.promise(25, "NO_SUCH if index is not from 0 to the number of signs, or is 6");
            e.range("sign ? 3", 0, Math.min(length, 5), Edges.NO_SUCH);
            e.refused("sign 6 3", Edges.NO_SUCH);
            e.refused("sign 7 3", Edges.NO_SUCH);
            e.promise(25, "appends a sign if index is the number of signs; returns the number of signs then");
            if (length < 6) {
                e.taken("sign " + length + " 3", length + 1);
                e.leavesMotif("sign " + length + " 3", "591049".substring(0, length) + "3");
            }
            e.promise(25, "changes a sign; returns the number of signs then");
            for (int i = 0; i < length; i++) {
                e.taken("sign " + i + " 3", length);
                StringBuilder changed = new StringBuilder("591049".substring(0, length));
                changed.setCharAt(i, '3');
                e.leavesMotif("sign " + i + " 3", changed.toString());
            }
            for (int i = 0; i <= Math.min(length, 5); i++) {
                e.promise(25, "sign: 0 to 5, or ANY");
                for (String sign : KINDS_AND_ANY) {
                    e.taken("sign " + i + " " + sign, i == length ? length + 1 : length);
                    e.due("sign " + i + " " + sign, e.after("sign " + i + " " + sign).call("motif " + i),
                            Integer.parseInt(sign));
                }
                e.outside("sign " + i + " ?", Edges.BAD_VALUE, NO_SIGNS);
            }
            e.promise(25, "NO_SUCH ahead of BAD_VALUE");
            e.refused("sign -1 -1", Edges.NO_SUCH);
            e.refused("sign 6 6", Edges.NO_SUCH);
            e.refused("sign " + (length + 1) + " 7", Edges.NO_SUCH);
        }
    }

    private void cutMotif() {
        e.promise(26, "NOT_POSSIBLE if there is no motif");
        e.given("make 4");
        e.refused("cutMotif", Edges.NOT_POSSIBLE);
        e.given("make 4", "sign 0 1", "cutMotif");
        e.refused("cutMotif", Edges.NOT_POSSIBLE);
        e.promise(26, "a motif of one sign is gone then");
        e.asked("motifAt 0", 0);
        e.refused("motif 0", Edges.NO_SUCH);
        e.refused("sign 1 0", Edges.NO_SUCH);
        e.taken("sign 0 0", 1);
        for (int length = 1; length <= 6; length++) {
            e.promise(26, "returns the number of signs then");
            e.given(signs("591049".substring(0, length)));
            e.taken("cutMotif", length - 1);
            e.promise(26, "shorter by its last sign");
            e.leavesMotif("cutMotif", "591049".substring(0, length - 1));
        }
    }

    private void motif() {
        e.promise(27, "NO_SUCH if there is no such sign");
        e.given("ring abcd");
        e.outside("motif ?", Edges.NO_SUCH, "-1", "0", "1", "5", "6");
        for (int length = 1; length <= 6; length++) {
            e.given(signs("591049".substring(0, length)));
            e.range("motif ?", 0, length - 1, Edges.NO_SUCH);
        }
        e.promise(27, "returns a sign of the motif");
        for (int i = 0; i < 6; i++) {
            e.asked("motif " + i, "591049".charAt(i) - '0');
        }
        e.promise(27, "no sign that was cut off");
        e.given(Edges.steps(signs("591049"), "cutMotif", "cutMotif"));
        e.refused("motif 4", Edges.NO_SUCH);
        e.refused("motif 5", Edges.NO_SUCH);
    }

    private void motifAt() {
        e.promise(28, "NO_SUCH if there is no such bracelet");
        e.rangeOfBracelets("motifAt ?", "abcd");
        e.promise(28, "0 if there is no motif");
        e.given("ring abcd", "make 16");
        e.asked("motifAt 0", 0);
        e.asked("motifAt 1", 0);
        e.promise(28, "ANY or the kind in the slot");
        for (int sign = 0; sign <= 5; sign++) {
            e.given("ring -abcdee-", "sign 0 " + sign);
            e.asked("motifAt 0", sign == 0 ? 1 + 128 : sign == 5 ? 32 + 64 : 1 << sign);
        }
        e.given("ring -abcdee-", "sign 0 9");
        e.asked("motifAt 0", 255);
        e.given(Edges.steps("ring -abcdee-", signs("1923")));
        e.asked("motifAt 0", 0);
        e.given(Edges.steps("ring -abcdee-", signs("1935")));
        e.asked("motifAt 0", 0);
        e.given(Edges.steps("ring -abcdee-", signs("1934")));
        e.asked("motifAt 0", 2);
        e.given(Edges.steps("ring -abcdee-", signs("9999")));
        e.asked("motifAt 0", 255);
    }

    private void motifAtSizes() {
        for (int n : Edges.SIZES) {
            for (int s = 0; s < n; s++) {
                e.promise(28, "the slot (s + i) modulo n");
                e.given(Edges.steps("ring ab" + (n - 2) + "-", "roll 0 " + s, signs("12")));
                e.asked("motifAt 0", 1 << s);
                e.given(Edges.steps("ring " + AlikeEdges.begin("abcd", n), "roll 0 " + s, signs("1239")));
                e.asked("motifAt 0", 1 << s);
            }
            for (int length = 1; length <= 6; length++) {
                e.promise(28, "it has at most n signs");
                e.given(Edges.steps("make " + n, signs("999999".substring(0, length))));
                e.asked("motifAt 0", length <= n ? (1 << n) - 1 : 0);
                e.given(Edges.steps("make " + n, signs("000000".substring(0, length))));
                e.asked("motifAt 0", length <= n ? (1 << n) - 1 : 0);
                e.promise(29, "it has at most n signs");
                e.asked("staysAt 0", length <= n ? (1 << n) - 1 : 0);
            }
        }
    }

    private void staysAt() {
        e.promise(29, "NO_SUCH if there is no such bracelet");
        e.rangeOfBracelets("staysAt ?", "abcd");
        e.promise(29, "0 if there is no motif");
        e.given("ring 4a", "make 16");
        e.asked("staysAt 0", 0);
        e.asked("staysAt 1", 0);
        for (int n : Edges.SIZES) {
            for (int s = 0; s < n / 4; s++) {
                String quarter = BraceletEdges.single(n / 4, s);
                int set = (1 | 1 << n / 4 | 1 << n / 2 | 1 << 3 * n / 4) << s;
                e.promise(29, "at the slots into which turns by 1, 2 and 3 quarters move it");
                e.given("ring " + quarter.repeat(4), "sign 0 1");
                e.asked("staysAt 0", set);
                e.promise(29, "not if it is not at one of these four slots");
                for (int t = 0; t < 4; t++) {
                    e.given("ring " + quarter.repeat(4), "sign 0 1", "takeOff 0 " + (s + t * n / 4));
                    e.asked("motifAt 0", set & ~(1 << s + t * n / 4));
                    e.asked("staysAt 0", 0);
                }
            }
            e.promise(29, "slot 0 follows the last slot");
            e.given(Edges.steps("ring " + ("b" + (n > 8 ? "-".repeat(n / 4 - 2) : "") + (n > 4 ? "a" : "")).repeat(4),
                    signs(n > 4 ? "12" : "22")));
            int last = n > 4 ? 1 << n / 4 - 1 : 1;
            e.asked("staysAt 0", last | last << n / 4 | last << n / 2 | last << 3 * n / 4);
        }
    }
}
