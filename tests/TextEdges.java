/** The edges of promises 35 to 38: append, clearText, errorPosition, read. */
final class TextEdges {
    private static final String KINDS = "-abcde";
    private static final String[] SIX = Edges.times(6, "make 4");

    private final Edges e;

    TextEdges(Edges edges) {
        e = edges;
    }

    void all() {
        append();
        clearText();
        numbers();
        letters();
        slotsAltogether();
        slotsTooMany();
        errorPosition();
        readBadText();
        readFromTheBox();
        readLimit();
        readBuffer();
    }

    private void append() {
        e.promise(35, "code: 33 to 126");
        e.given("text a");
        for (int code = -10; code <= 200; code++) {
            if (code < 33 || code > 126) {
                e.refused("append " + code, Edges.BAD_VALUE);
            } else {
                e.apart("append " + code, 2);
            }
        }
        e.refused("append MIN", Edges.BAD_VALUE);
        e.refused("append MAX", Edges.BAD_VALUE);
        e.refused("append " + (256 + 97), Edges.BAD_VALUE);
        e.refused("append " + (65536 + 97), Edges.BAD_VALUE);
        e.promise(35, "returns the number of characters in the buffer");
        e.given();
        e.apart("append 33", 1);
        e.promise(35, "LIMIT if the buffer contains 60 characters");
        e.given("text " + "a".repeat(58));
        e.apart("append 97", 59);
        e.given("text " + "a".repeat(59));
        e.apart("append 97", 60);
        e.given("text " + "a".repeat(60));
        e.refused("append 97", Edges.LIMIT);
        e.refused("append 33", Edges.LIMIT);
        e.refused("append 126", Edges.LIMIT);
        e.promise(35, "BAD_VALUE ahead of LIMIT");
        e.refused("append 32", Edges.BAD_VALUE);
        e.refused("append 127", Edges.BAD_VALUE);
        e.promise(35, "room again after clearText");
        e.given("text " + "a".repeat(60), "clearText");
        e.apart("append 97", 1);
    }

    private void clearText() {
        e.promise(36, "returns the number of characters that it contained");
        for (int length = 0; length <= 60; length++) {
            e.given("text " + "b".repeat(length));
            e.apart("clearText", length);
        }
        e.promise(36, "empties the buffer");
        e.given("text 4a", "clearText");
        e.apart("clearText", 0);
        e.asked("errorPosition", 0);
        e.refused("read", Edges.BAD_TEXT);
        e.given("text 3a", "clearText", "append 98");
        e.asked("errorPosition", 1);
        e.given("text abcd", "read", "append 98");
        e.asked("errorPosition", 1);
    }

    /** The position of the first error; the text is a bracelet if it is NONE. */
    private void position(String text, int want) {
        e.given("fill 1 20", "fill 2 20", "text " + text);
        e.asked("errorPosition", want);
        if (want != Edges.NONE) {
            e.refused("read", Edges.BAD_TEXT);
        }
    }

    private void reads(String text, String slots) {
        e.given("fill 1 20", "fill 2 20", "fill 3 20", "fill 4 20", "fill 5 20", "text " + text);
        e.asked("errorPosition", Edges.NONE);
        e.taken("read", 0);
        e.leaves("read", 0, slots);
    }

    private void numbers() {
        e.promise(37, "a number is 2 to 16");
        for (int number = 2; number <= 16; number++) {
            int rest = (16 - number) % 4;
            reads(number + "a" + "b".repeat(rest), "a".repeat(number) + "b".repeat(rest));
            reads("b".repeat(rest) + number + "a", "b".repeat(rest) + "a".repeat(number));
        }
        for (int number = 17; number <= 99; number++) {
            position(number + "a", 1);
        }
        position("100a", 2);
        position("160a", 2);
        position("161a", 2);
        position("166", 2);
        e.promise(37, "a number is not 0 or 1");
        position("0", 0);
        position("0aaaa", 0);
        position("a0aaa", 1);
        position("1aaaa", 1);
        position("a1aaa", 2);
        position("aaa1a", 4);
        position("1-aaa", 1);
        position("10aa", 4);
        e.promise(37, "without leading zeros");
        position("02a", 0);
        position("04a", 0);
        position("012a", 0);
        position("a02aa", 1);
        position("2a02a", 2);
        e.promise(37, "a run has one number at most");
        position("22a", 1);
        position("25a", 1);
        position("112a", 2);
        position("102a", 2);
        e.promise(37, "a text does not end with a number");
        position("4", 1);
        position("1", 1);
        position("16", 2);
        position("4a4", 3);
        position("4a1", 3);
        position("4a12", 4);
    }

    private void letters() {
        e.promise(37, "a to e, or -");
        for (int code = 33; code <= 126; code++) {
            char c = (char) code;
            if (KINDS.indexOf(c) >= 0) {
                reads("bbb" + c, "bbb" + c);
                reads("4" + c, "" + c + c + c + c);
                reads("16" + c, ("" + c).repeat(16));
            } else if (c >= '0' && c <= '9') {
                position("bbb" + c, c == '0' ? 3 : 4);
            } else {
                position("bbb" + c, 3);
                position("" + c + "bbb", 0);
                position("4" + c, 1);
                position("1" + c, 1);
                position("12" + c, 2);
            }
        }
        e.promise(37, "1 to 5 for a to e, or one slot without a number");
        reads("abcde-a-", "abcde-a-");
        reads("-edcba2e", "-edcbaee");
        reads("16-", "----------------");
    }

    private void slotsAltogether() {
        e.promise(37, "altogether there are 4, 8, 12 or 16 slots");
        for (int slots = 1; slots <= 16; slots++) {
            String singles = "a".repeat(slots);
            String number = slots < 2 ? "a" : slots + "a";
            if (slots % 4 == 0) {
                reads(singles, singles);
                reads(number, singles);
            } else {
                position(singles, slots);
                position(number, number.length());
            }
        }
        position("", 0);
        reads("2a2b2c2d2e2-2a2b", "aabbccddee--aabb");
        reads("2a2b2c2d2e2-2ab-", "aabbccddee--aab-");
    }

    private void slotsTooMany() {
        e.promise(37, "no text has more than 16 slots");
        for (int slots = 0; slots <= 16; slots++) {
            String start = slots == 0 ? "" : slots == 1 ? "a" : slots + "a";
            for (int more = 2; more <= 16; more++) {
                String text = start + more + "b";
                int sum = slots + more;
                int firstDigit = start.length();
                // A 1 stands for 10 at least, so that it is an error itself if 10 are too many.
                int error = more < 10 || slots > 6 ? firstDigit : firstDigit + 1;
                position(text, sum > 16 ? error : sum % 4 == 0 ? Edges.NONE : text.length());
            }
            position(start + "1", slots > 6 ? start.length() : start.length() + 1);
            position(start + "b", slots > 15 ? start.length() : slots % 4 == 3 ? Edges.NONE : start.length() + 1);
        }
        position("a".repeat(16), Edges.NONE);
        position("a".repeat(17), 16);
        position("a".repeat(60), 16);
        position("16aa", 3);
        position("16a2", 3);
        position("15aa", Edges.NONE);
        position("15a2", 3);
    }

    private void errorPosition() {
        e.promise(37, "the index of the first character that is an error");
        position("!", 0);
        position("abc!abc!", 3);
        position("abcd!", 4);
        position("4a4b!1", 4);
        position("2a" + "!".repeat(58), 2);
        position("abcdabcdabcdabcd" + "~".repeat(44), 16);
        e.promise(37, "if there is none and the buffer is not a text, the number of characters");
        position("", 0);
        position("a", 1);
        position("abcde", 5);
        position("15a", 3);
        position("3a3b3c3d3e", 10);
        e.promise(37, "NONE if the buffer is a text");
        position("abcd", Edges.NONE);
        position("4-", Edges.NONE);
        position("2-2a", Edges.NONE);
        e.promise(37, "it changes nothing, also with 6 bracelets and an empty box");
        e.given(Edges.steps(SIX, "fill 1 0", "text 4a"));
        e.asked("errorPosition", Edges.NONE);
    }

    private void readBadText() {
        e.promise(38, "BAD_TEXT if the buffer is not a text");
        for (String text : new String[] {"", "a", "aaa", "aaaaa", "4", "17-", "16--", "4a!", "!4a", "1-3a", "04a"}) {
            e.given("make 4", "text " + text);
            e.refused("read", Edges.BAD_TEXT);
        }
        e.promise(38, "BAD_TEXT ahead of NOT_POSSIBLE and LIMIT");
        e.given(Edges.steps(SIX, "fill 1 0", "text 3a"));
        e.refused("read", Edges.BAD_TEXT);
    }

    private void readFromTheBox() {
        for (int k = 1; k <= 5; k++) {
            char charm = KINDS.charAt(k);
            e.promise(38, "NOT_POSSIBLE if the box does not contain enough charms");
            e.given("fill " + k + " 3", "text 4" + charm);
            e.refused("read", Edges.NOT_POSSIBLE);
            e.given("fill " + k + " 0", "text -" + charm + "2-");
            e.refused("read", Edges.NOT_POSSIBLE);
            e.given("fill " + k + " 0", "text abcde3-");
            e.refused("read", Edges.NOT_POSSIBLE);
            e.given("text 13" + charm + "3-");
            e.refused("read", Edges.NOT_POSSIBLE);
            e.promise(38, "just enough charms in the box");
            e.given("text 12" + charm + "4-");
            e.taken("read", 0);
            e.given("fill " + k + " 4", "text 4" + charm);
            e.taken("read", 0);
            e.given("fill " + k + " 4", "text 4" + charm, "read");
            e.promise(38, "with charms from the box");
            e.asked("kind " + k + " 0", 0);
            e.asked("kind " + k + " 2", 4);
            e.asked("kind " + (k % 5 + 1) + " 0", 12);
        }
        e.promise(38, "no charm is needed for an empty slot");
        e.given("fill 1 0", "fill 2 0", "fill 3 0", "fill 4 0", "fill 5 0", "text 16-");
        e.taken("read", 0);
    }

    private void readLimit() {
        e.promise(38, "LIMIT if there are 6 bracelets");
        e.given(Edges.steps(Edges.times(5, "make 4"), "text 4a"));
        e.taken("read", 5);
        e.given(Edges.steps(SIX, "text 4a"));
        e.refused("read", Edges.LIMIT);
        e.promise(38, "NOT_POSSIBLE ahead of LIMIT");
        e.given(Edges.steps(SIX, "fill 1 3", "text 4a"));
        e.refused("read", Edges.NOT_POSSIBLE);
        e.given(Edges.steps(SIX, "fill 1 4", "text 4a"));
        e.refused("read", Edges.LIMIT);
        e.promise(38, "a new bracelet gets the lowest free number");
        for (int b = 0; b < 6; b++) {
            e.given(Edges.steps(SIX, "remove " + b, "text 8-"));
            e.taken("read", b);
        }
        e.given(Edges.steps(SIX, "remove 4", "remove 1", "text 8-"));
        e.taken("read", 1);
    }

    private void readBuffer() {
        e.promise(38, "empties the buffer");
        e.given("text 4a", "read");
        e.apart("clearText", 0);
        e.refused("read", Edges.BAD_TEXT);
        e.promise(38, "in each of these cases the buffer stays");
        e.given("text 3a");
        e.due("the length after BAD_TEXT", e.after("read").call("clearText"), 2);
        e.due("the text after BAD_TEXT", e.after("read", "append 97").call("read"), 0);
        e.given("fill 1 3", "text 4a");
        e.due("the length after NOT_POSSIBLE", e.after("read").call("clearText"), 2);
        e.due("the text after NOT_POSSIBLE", e.after("read", "fill 1 4").call("read"), 0);
        e.given(Edges.steps(SIX, "text 4a"));
        e.due("the length after LIMIT", e.after("read").call("clearText"), 2);
        e.due("the text after LIMIT", e.after("read", "remove 3").call("read"), 3);
    }
}
