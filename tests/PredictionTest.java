/** Promises 33 and 34: ifHung, bestSwap. */
public final class PredictionTest {
    private static final Check check = new Check();

    public static void main(String[] args) {
        ifHung();
        bestSwap();
        bestSwapWeights();
        check.finish();
    }

    private static void ifHung() {
        CharmBracelets x = new CharmBracelets();
        Check.read(x, "ab-a4-");
        check.due("ifHung(0, 0, 1), no motif", x.ifHung(0, 0, 1), 0);
        x.sign(0, 1);
        x.sign(1, 2);
        check.due("ifHung(0, 4, 2)", x.ifHung(0, 4, 2), 2);
        check.due("ifHung(0, 1, 0), emptied", x.ifHung(0, 1, 0), 0);
        check.due("ifHung(0, 1, 3), another charm", x.ifHung(0, 1, 3), 0);
        check.due("ifHung(0, 1, 2), the same charm", x.ifHung(0, 1, 2), 1);
        x.fill(2, 0);
        check.due("ifHung(0, 4, 2), the box does not matter", x.ifHung(0, 4, 2), 2);
        x.sign(0, 0);
        x.sign(1, CharmBracelets.ANY);
        check.due("ifHung(0, 7, 5)", x.ifHung(0, 7, 5), 4);
        check.due("ifHung(0, 0, 0)", x.ifHung(0, 0, 0), 6);
        check.due("ifHung(0, 8, 0)", x.ifHung(0, 8, 0), -1);
        check.due("ifHung(0, -1, 0)", x.ifHung(0, -1, 0), -1);
        check.due("ifHung(1, 0, 0)", x.ifHung(1, 0, 0), -1);
        check.due("ifHung(-1, 0, 0)", x.ifHung(-1, 0, 0), -1);
        check.due("ifHung(0, 0, 6)", x.ifHung(0, 0, 6), -2);
        check.due("ifHung(0, 0, -1)", x.ifHung(0, 0, -1), -2);
        check.due("ifHung(0, 0, ANY)", x.ifHung(0, 0, CharmBracelets.ANY), -2);
        check.due("ifHung(0, 8, 6), the slot first", x.ifHung(0, 8, 6), -1);
        check.same("the ring itself", Check.slots(x, 0), "ab-a----");
    }

    private static void bestOf(String text, int want) {
        CharmBracelets x = new CharmBracelets();
        Check.read(x, text);
        check.due("bestSwap(0) of " + text, x.bestSwap(0), want);
        check.due("bestSwap(0) again", x.bestSwap(0), want);
    }

    private static void bestSwap() {
        bestOf("4-", -6);
        bestOf("4a", -6);
        bestOf("a---", -6);
        // The lean is 8; with a and d exchanged, or b and c, it is 4.
        bestOf("abcd", 3);
        // The lean is 4; with a-a- as with -a-a it is 0.
        bestOf("2a--", 3);
        // Any swap that brings one a into the opposite quarter; the first of them is of slots 0 and 4.
        bestOf("2a6-", 4);
        bestOf("4-2a2-", 4);
        bestOf("14-2e", 414);
        CharmBracelets x = new CharmBracelets();
        check.due("bestSwap(0)", x.bestSwap(0), -1);
        check.due("bestSwap(-1)", x.bestSwap(-1), -1);
        check.due("bestSwap(6)", x.bestSwap(6), -1);
        Check.read(x, "2a6-");
        x.bestSwap(0);
        check.same("the ring itself", Check.slots(x, 0), "aa------");
        check.due("the lean itself", x.bracelet(0, 3), 4);
    }

    private static void bestSwapWeights() {
        CharmBracelets x = new CharmBracelets();
        Check.read(x, "abcd");
        x.weigh(1, 4);
        x.weigh(2, 4);
        x.weigh(3, 4);
        x.weigh(4, 4);
        check.due("bestSwap(0), all of one weight", x.bestSwap(0), -6);
        x.weigh(1, 50);
        x.weigh(4, 50);
        check.due("bestSwap(0), a and d are heavy", x.bestSwap(0), 1);
        x.weigh(4, 4);
        x.weigh(3, 50);
        check.due("bestSwap(0), a and c are heavy", x.bestSwap(0), -6);
    }
}
