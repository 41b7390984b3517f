/** Promises 24 to 29: setMotif, sign, cutMotif, motif, motifAt, staysAt. */
public final class MotifTest {
    private static final int ANY = CharmBracelets.ANY;
    private static final Check check = new Check();

    public static void main(String[] args) {
        setMotif();
        sign();
        cutMotif();
        motif();
        motifAt();
        staysAt();
        check.finish();
    }

    private static String signs(CharmBracelets x) {
        StringBuilder text = new StringBuilder();
        for (int i = 0; i < 6 && x.motif(i) >= 0; i++) {
            text.append(x.motif(i));
        }
        return text.toString();
    }

    private static void motifOf(CharmBracelets x, int... signs) {
        while (x.cutMotif() >= 0) {
            // until it is gone
        }
        for (int i = 0; i < signs.length; i++) {
            x.sign(i, signs[i]);
        }
    }

    private static void setMotif() {
        CharmBracelets x = new CharmBracelets();
        Check.read(x, "ba-c2ed-");
        Check.read(x, "abab");
        Check.read(x, "12-");
        // The least form at level 1 is -ba-ceed.
        check.due("setMotif(0, 0, 6)", x.setMotif(0, 0, 6), 1);
        check.same("the motif", signs(x), "021035");
        check.due("motifAt(0)", x.motifAt(0), 1 << 7);
        check.due("setMotif(0, 5, 5), slot 0 follows", x.setMotif(0, 5, 5), 1);
        check.same("the motif", signs(x), "55402");
        check.due("setMotif(0, 5, 1)", x.setMotif(0, 5, 1), 2);
        check.same("the motif", signs(x), "5");
        check.due("setMotif(0, 7, 1)", x.setMotif(0, 7, 1), 1);
        check.same("the motif", signs(x), "4");
        check.due("setMotif(1, 3, 4)", x.setMotif(1, 3, 4), 2);
        check.same("the motif", signs(x), "2121");
        check.due("setMotif(1, 0, 5), more than its slots", x.setMotif(1, 0, 5), -2);
        check.due("setMotif(2, 11, 6)", x.setMotif(2, 11, 6), 12);
        check.due("setMotif(0, 0, 7)", x.setMotif(0, 0, 7), -2);
        check.due("setMotif(0, 0, 0)", x.setMotif(0, 0, 0), -2);
        check.due("setMotif(0, 0, -1)", x.setMotif(0, 0, -1), -2);
        check.due("setMotif(0, 8, 1)", x.setMotif(0, 8, 1), -1);
        check.due("setMotif(0, -1, 1)", x.setMotif(0, -1, 1), -1);
        check.due("setMotif(3, 0, 1)", x.setMotif(3, 0, 1), -1);
        check.due("setMotif(0, 8, 7), the slot first", x.setMotif(0, 8, 7), -1);
        check.same("the motif", signs(x), "000000");
    }

    private static void sign() {
        CharmBracelets x = new CharmBracelets();
        check.due("sign(1, 0), no motif yet", x.sign(1, 0), -1);
        check.due("sign(0, 0)", x.sign(0, 0), 1);
        check.due("sign(1, 5)", x.sign(1, 5), 2);
        check.due("sign(2, ANY)", x.sign(2, ANY), 3);
        check.due("sign(0, 3)", x.sign(0, 3), 3);
        check.same("the motif", signs(x), "359");
        check.due("sign(4, 1)", x.sign(4, 1), -1);
        check.due("sign(-1, 1)", x.sign(-1, 1), -1);
        check.due("sign(0, 6)", x.sign(0, 6), -2);
        check.due("sign(0, 8)", x.sign(0, 8), -2);
        check.due("sign(0, 10)", x.sign(0, 10), -2);
        check.due("sign(0, -1)", x.sign(0, -1), -2);
        check.due("sign(3, 7)", x.sign(3, 7), -2);
        check.due("sign(4, 7), the index first", x.sign(4, 7), -1);
        check.same("the motif", signs(x), "359");
        x.sign(3, 1);
        x.sign(4, 1);
        check.due("sign(5, 1)", x.sign(5, 1), 6);
        check.due("sign(6, 1)", x.sign(6, 1), -1);
        check.due("sign(6, 7), the index first", x.sign(6, 7), -1);
        check.due("sign(MAX, 1)", x.sign(Integer.MAX_VALUE, 1), -1);
        check.due("sign(5, 2)", x.sign(5, 2), 6);
        check.same("the motif", signs(x), "359112");
    }

    private static void cutMotif() {
        CharmBracelets x = new CharmBracelets();
        check.due("cutMotif(), no motif", x.cutMotif(), -3);
        motifOf(x, 1, 2);
        x.make(4);
        check.due("cutMotif()", x.cutMotif(), 1);
        check.same("the motif", signs(x), "1");
        check.due("cutMotif()", x.cutMotif(), 0);
        check.due("motif(0)", x.motif(0), -1);
        check.due("motifAt(0)", x.motifAt(0), 0);
        check.due("cutMotif()", x.cutMotif(), -3);
        check.due("sign(1, 0)", x.sign(1, 0), -1);
        check.due("sign(0, 4)", x.sign(0, 4), 1);
        check.due("motif(1)", x.motif(1), -1);
    }

    private static void motif() {
        CharmBracelets x = new CharmBracelets();
        check.due("motif(0)", x.motif(0), -1);
        motifOf(x, 5, 0, ANY, 4, 3, 2);
        check.due("motif(0)", x.motif(0), 5);
        check.due("motif(1)", x.motif(1), 0);
        check.due("motif(2)", x.motif(2), 9);
        check.due("motif(5)", x.motif(5), 2);
        check.due("motif(6)", x.motif(6), -1);
        check.due("motif(-1)", x.motif(-1), -1);
        check.due("motif(MIN)", x.motif(Integer.MIN_VALUE), -1);
        check.due("motif(MAX)", x.motif(Integer.MAX_VALUE), -1);
    }

    private static void motifAt() {
        CharmBracelets x = new CharmBracelets();
        Check.read(x, "ab-ab--a");
        Check.read(x, "4a");
        Check.read(x, "16-");
        check.due("motifAt(0), no motif", x.motifAt(0), 0);
        motifOf(x, 1, 2);
        check.due("motifAt(0) of ab", x.motifAt(0), 1 + 8);
        motifOf(x, 1, ANY);
        check.due("motifAt(0) of a and any", x.motifAt(0), 1 + 8 + 128);
        motifOf(x, 1, 1, 2);
        check.due("motifAt(0) of aab, over the end", x.motifAt(0), 128);
        motifOf(x, 0);
        check.due("motifAt(0) of an empty slot", x.motifAt(0), 4 + 32 + 64);
        motifOf(x, ANY);
        check.due("motifAt(0) of any", x.motifAt(0), 255);
        check.due("motifAt(2) of any", x.motifAt(2), 65535);
        motifOf(x, 1, 1, 1, 1);
        check.due("motifAt(1) of aaaa", x.motifAt(1), 15);
        motifOf(x, 1, 1, 1, 1, 1);
        check.due("motifAt(1) of aaaaa, more signs than slots", x.motifAt(1), 0);
        motifOf(x, ANY, ANY, ANY, ANY, ANY, ANY);
        check.due("motifAt(1) of six times any", x.motifAt(1), 0);
        check.due("motifAt(0) of six times any", x.motifAt(0), 255);
        check.due("motifAt(3)", x.motifAt(3), -1);
        check.due("motifAt(-1)", x.motifAt(-1), -1);
    }

    private static void staysAt() {
        CharmBracelets x = new CharmBracelets();
        Check.read(x, "a--a-ba--a--");
        Check.read(x, "abab");
        Check.read(x, "4a");
        check.due("staysAt(0), no motif", x.staysAt(0), 0);
        motifOf(x, 1, 0);
        check.due("motifAt(0)", x.motifAt(0), 1 + 8 + 64 + 512);
        check.due("staysAt(0)", x.staysAt(0), 1 + 8 + 64 + 512);
        motifOf(x, 0);
        check.due("motifAt(0)", x.motifAt(0), 2 + 4 + 16 + 128 + 256 + 1024 + 2048);
        check.due("staysAt(0), not ahead of b", x.staysAt(0), 2 + 16 + 128 + 1024);
        motifOf(x, 2);
        check.due("staysAt(0), only once there", x.staysAt(0), 0);
        motifOf(x, 1);
        check.due("staysAt(1), at two of four", x.staysAt(1), 0);
        check.due("staysAt(2)", x.staysAt(2), 15);
        motifOf(x, ANY, ANY, ANY, ANY, ANY);
        check.due("staysAt(2), more signs than slots", x.staysAt(2), 0);
        check.due("staysAt(0)", x.staysAt(0), 4095);
        check.due("staysAt(3)", x.staysAt(3), -1);
        check.due("staysAt(-1)", x.staysAt(-1), -1);
        // At slots 0 and 8, but not at 4 and 12: half a turn is not enough.
        Check.read(x, "c7-c7-");
        motifOf(x, 3);
        check.due("motifAt(3)", x.motifAt(3), 1 + 256);
        check.due("staysAt(3)", x.staysAt(3), 0);
    }
}
