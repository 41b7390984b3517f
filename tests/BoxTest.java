/** Promises 1 to 4: a new object, fill, weigh, kind. */
public final class BoxTest {
    private static final Check check = new Check();

    public static void main(String[] args) {
        newObject();
        fill();
        weigh();
        kind();
        check.finish();
    }

    private static void newObject() {
        CharmBracelets x = new CharmBracelets();
        check.due("bracelets()", x.bracelets(), 0);
        for (int k = 1; k <= 5; k++) {
            check.due("kind(" + k + ", 0)", x.kind(k, 0), 12);
            check.due("kind(" + k + ", 1)", x.kind(k, 1), 2 * k);
            check.due("kind(" + k + ", 2)", x.kind(k, 2), 0);
        }
        check.due("motif(0)", x.motif(0), -1);
        check.due("entries()", x.entries(), 0);
        check.due("undo()", x.undo(), -3);
        check.due("restore()", x.restore(), -3);
        check.due("clearText()", x.clearText(), 0);
    }

    private static void fill() {
        CharmBracelets x = new CharmBracelets();
        check.due("fill(1, 0)", x.fill(1, 0), 12);
        check.due("fill(1, 99)", x.fill(1, 99), 0);
        check.due("fill(5, 7)", x.fill(5, 7), 12);
        check.due("fill(5, 7)", x.fill(5, 7), 7);
        check.due("fill(1, 100)", x.fill(1, 100), -2);
        check.due("fill(1, -1)", x.fill(1, -1), -2);
        check.due("fill(1, MIN)", x.fill(1, Integer.MIN_VALUE), -2);
        check.due("fill(0, 5)", x.fill(0, 5), -1);
        check.due("fill(6, 5)", x.fill(6, 5), -1);
        check.due("fill(MIN, 5)", x.fill(Integer.MIN_VALUE, 5), -1);
        check.due("fill(MAX, 5)", x.fill(Integer.MAX_VALUE, 5), -1);
        check.due("fill(0, 100), the kind first", x.fill(0, 100), -1);
        check.due("kind(1, 0)", x.kind(1, 0), 99);
        check.due("kind(2, 0)", x.kind(2, 0), 12);
        check.due("kind(5, 0)", x.kind(5, 0), 7);
        check.due("kind(1, 1)", x.kind(1, 1), 2);
    }

    private static void weigh() {
        CharmBracelets x = new CharmBracelets();
        check.due("weigh(3, 1)", x.weigh(3, 1), 6);
        check.due("weigh(3, 50)", x.weigh(3, 50), 1);
        check.due("weigh(3, 0)", x.weigh(3, 0), -2);
        check.due("weigh(3, 51)", x.weigh(3, 51), -2);
        check.due("weigh(3, -1)", x.weigh(3, -1), -2);
        check.due("weigh(0, 1)", x.weigh(0, 1), -1);
        check.due("weigh(6, 1)", x.weigh(6, 1), -1);
        check.due("weigh(6, 51), the kind first", x.weigh(6, 51), -1);
        check.due("kind(3, 1)", x.kind(3, 1), 50);
        check.due("kind(3, 0)", x.kind(3, 0), 12);
        check.due("kind(2, 1)", x.kind(2, 1), 4);
        Check.read(x, "4c");
        check.due("bracelet(0, 2)", x.bracelet(0, 2), 200);
        x.weigh(3, 2);
        check.due("bracelet(0, 2), weighed again", x.bracelet(0, 2), 8);
    }

    private static void kind() {
        CharmBracelets x = new CharmBracelets();
        Check.read(x, "3ab");
        Check.read(x, "2a6-");
        check.due("kind(1, 0)", x.kind(1, 0), 7);
        check.due("kind(1, 2)", x.kind(1, 2), 5);
        check.due("kind(2, 0)", x.kind(2, 0), 11);
        check.due("kind(2, 2)", x.kind(2, 2), 1);
        check.due("kind(3, 2)", x.kind(3, 2), 0);
        check.due("kind(0, 2)", x.kind(0, 2), -1);
        check.due("kind(6, 2)", x.kind(6, 2), -1);
        check.due("kind(-1, 0)", x.kind(-1, 0), -1);
        check.due("kind(1, -1)", x.kind(1, -1), -2);
        check.due("kind(1, 3)", x.kind(1, 3), -2);
        check.due("kind(0, 3), the kind first", x.kind(0, 3), -1);
    }
}
