import java.util.regex.Pattern;

/** Promises 35 to 38: append, clearText, errorPosition, read. */
public final class TextTest {
    private static final Pattern RUNS = Pattern.compile("(([2-9]|1[0-6])?[a-e-])+");
    private static final Check check = new Check();

    public static void main(String[] args) {
        append();
        clearText();
        errorPosition();
        manyTexts();
        read();
        check.finish();
    }

    private static void append() {
        CharmBracelets x = new CharmBracelets();
        check.due("append(33)", x.append(33), 1);
        check.due("append(126)", x.append(126), 2);
        check.due("append(32)", x.append(32), -2);
        check.due("append(127)", x.append(127), -2);
        check.due("append(-1)", x.append(-1), -2);
        check.due("append(MIN)", x.append(Integer.MIN_VALUE), -2);
        check.due("append(MAX)", x.append(Integer.MAX_VALUE), -2);
        for (int i = 3; i <= 60; i++) {
            check.due("append(97)", x.append(97), i);
        }
        check.due("append(97), a 61st", x.append(97), -4);
        check.due("append(32), BAD_VALUE first", x.append(32), -2);
        check.due("clearText()", x.clearText(), 60);
        check.due("append(97)", x.append(97), 1);
        check.due("undo(), append is not undoable", x.undo(), -3);
    }

    private static void clearText() {
        CharmBracelets x = new CharmBracelets();
        check.due("clearText()", x.clearText(), 0);
        Check.write(x, "abcz");
        check.due("clearText()", x.clearText(), 4);
        check.due("clearText()", x.clearText(), 0);
        check.due("errorPosition()", x.errorPosition(), 0);
        Check.write(x, "abcd");
        check.due("errorPosition(), nothing old is left", x.errorPosition(), -6);
        check.due("undo(), clearText is not undoable", x.undo(), -3);
    }

    private static void errorAt(String text, int want) {
        CharmBracelets x = new CharmBracelets();
        Check.write(x, text);
        check.due("errorPosition() of " + text, x.errorPosition(), want);
        check.due("errorPosition() again", x.errorPosition(), want);
        check.due("clearText()", x.clearText(), text.length());
    }

    private static void errorPosition() {
        String[] texts = {"abcd", "----", "4a", "8-", "12e", "16-", "2a2b", "10a2b", "9a7b", "15ab",
            "2a2b2c2d2e2-2a2b", "aaaaaaaaaaaaaaaa", "3a5b", "6-10a", "11a5b", "13a3-", "14a2-", "a3b"};
        for (String text : texts) {
            errorAt(text, -6);
        }
        // No error, but not a text: the length.
        String[] beginnings = {"", "a", "3a", "4", "1", "16", "12a3", "2a1", "13a", "6-1",
            "10a", "7a7b", "15a", "abcd3", "5a", "4a4b4c2d"};
        for (String text : beginnings) {
            errorAt(text, text.length());
        }
        errorAt("0a", 0);
        errorAt("a0a", 1);
        errorAt("1a", 1);
        errorAt("1-", 1);
        errorAt("01", 0);
        errorAt("17a", 1);
        errorAt("19", 1);
        errorAt("20", 1);
        errorAt("22", 1);
        errorAt("99a", 1);
        errorAt("160", 2);
        errorAt("100", 2);
        errorAt("f", 0);
        errorAt("A", 0);
        errorAt("`", 0);
        errorAt("aa.a", 2);
        errorAt("aa+a", 2);
        errorAt("aa/a", 2);
        errorAt("aa:a", 2);
        errorAt("aa!a", 2);
        errorAt("aa~a", 2);
        errorAt("2f", 1);
        errorAt("16-a", 3);
        errorAt("16-2", 3);
        errorAt("16-1", 3);
        errorAt("16-0", 3);
        errorAt("15-2a", 3);
        errorAt("15-1", 3);
        errorAt("7-9a", -6);
        errorAt("8-9a", 2);
        errorAt("7-10a", 2);
        errorAt("6-11a", 3);
        errorAt("6-10", 4);
        errorAt("5-11a", -6);
        errorAt("5-12a", 3);
        errorAt("aaaaaaaaaaaaaaaaa", 16);
        errorAt("zzzz", 0);
        StringBuilder full = new StringBuilder("4a");
        while (full.length() < 60) {
            full.append('!');
        }
        errorAt(full.toString(), 2);
    }

    /** Whether some text begins so: it can be completed by a digit at most, and then by single slots. */
    private static boolean beginsText(String start) {
        String digits = "0123456789";
        for (int i = -1; i < digits.length(); i++) {
            String longer = i < 0 ? start : start + digits.charAt(i);
            for (int n = 0; n <= 16; n++) {
                if (isText(longer + "aaaaaaaaaaaaaaaa".substring(0, n))) {
                    return true;
                }
            }
        }
        return false;
    }

    private static boolean isText(String text) {
        if (!RUNS.matcher(text).matches()) {
            return false;
        }
        int slots = 0;
        for (String run : text.split("(?<=[a-e-])")) {
            slots += run.length() == 1 ? 1 : Integer.parseInt(run.substring(0, run.length() - 1));
        }
        return slots == 4 || slots == 8 || slots == 12 || slots == 16;
    }

    private static void manyTexts() {
        String[] starts = {"", "3a", "6-", "7-", "9b", "14c", "15d", "16e", "12a2b"};
        for (String start : starts) {
            for (char a = 33; a <= 126; a++) {
                for (char b : new char[] {'0', '1', '2', '6', '7', '9', 'a', 'e', 'f', '-', '!'}) {
                    asBySearch(start + a + b);
                }
            }
        }
    }

    private static void asBySearch(String text) {
        int want = CharmBracelets.NONE;
        for (int i = 0; i < text.length() && want == CharmBracelets.NONE; i++) {
            want = beginsText(text.substring(0, i + 1)) ? want : i;
        }
        if (want == CharmBracelets.NONE && !isText(text)) {
            want = text.length();
        }
        CharmBracelets x = new CharmBracelets();
        for (int k = 1; k <= 5; k++) {
            x.fill(k, 16);
        }
        Check.write(x, text);
        check.due("errorPosition() of " + text, x.errorPosition(), want);
        check.due("read() of " + text, x.read(), want == CharmBracelets.NONE ? 0 : CharmBracelets.BAD_TEXT);
    }

    private static void read() {
        CharmBracelets x = new CharmBracelets();
        check.due("read(), an empty buffer", x.read(), -5);
        check.due("read()", Check.read(x, "2ab-c3de6-"), -5);
        check.due("clearText(), the buffer stays", x.clearText(), 10);
        check.due("read()", Check.read(x, "2ab-c3de7-"), 0);
        check.due("clearText(), the buffer is empty", x.clearText(), 0);
        check.same("the ring", Check.slots(x, 0), "aab-cddde-------");
        check.due("kind(1, 0)", x.kind(1, 0), 10);
        check.due("kind(4, 0)", x.kind(4, 0), 9);
        check.due("read(), 11 a are too many", Check.read(x, "11a-"), -3);
        check.due("clearText(), the buffer stays", x.clearText(), 4);
        check.due("kind(1, 0)", x.kind(1, 0), 10);
        check.due("read(), 10 a", Check.read(x, "10a2-"), 1);
        check.due("kind(1, 0)", x.kind(1, 0), 0);
        x.make(4);
        x.make(4);
        x.make(4);
        x.remove(2);
        check.due("read(), lowest free number", Check.read(x, "b3-"), 2);
        x.make(4);
        check.due("read(), a seventh", Check.read(x, "4-"), -4);
        check.due("read(), the buffer stayed", x.read(), -4);
        x.remove(3);
        check.due("read(), the buffer stayed", x.read(), 3);
        check.due("read(), a seventh without charms in the box", Check.read(x, "4a"), -3);
        check.due("read(), a seventh and not a text", Check.read(x, "3a"), -5);
        check.same("the ring", Check.slots(x, 1), "aaaaaaaaaa--");
    }
}
