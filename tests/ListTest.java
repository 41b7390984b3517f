/** Promises 30 to 32: note, entries, entry. */
public final class ListTest {
    private static final Check check = new Check();

    public static void main(String[] args) {
        note();
        fullList();
        entry();
        check.finish();
    }

    private static void note() {
        CharmBracelets x = new CharmBracelets();
        Check.read(x, "abc5-");
        Check.read(x, "3-abc2-");
        Check.read(x, "cba5-");
        Check.read(x, "abc9-");
        check.due("entries()", x.entries(), 0);
        check.due("note(0)", x.note(0), 0);
        check.due("note(1), rolled", x.note(1), 0);
        check.due("note(2), mirrored is another class", x.note(2), 1);
        check.due("note(3), of another size", x.note(3), 2);
        check.due("note(2)", x.note(2), 1);
        check.due("note(0)", x.note(0), 0);
        check.due("entries()", x.entries(), 3);
        check.due("note(4)", x.note(4), -1);
        check.due("note(-1)", x.note(-1), -1);
        check.due("note(6)", x.note(6), -1);
        x.takeOff(0, 2);
        check.due("note(0), changed", x.note(0), 3);
        check.due("entry(0, 1)", x.entry(0, 1), 3);
        check.due("entry(1, 1)", x.entry(1, 1), 2);
        check.due("entry(2, 1)", x.entry(2, 1), 1);
        check.due("entry(3, 1)", x.entry(3, 1), 1);
    }

    private static void fullList() {
        CharmBracelets x = new CharmBracelets();
        x.make(4);
        x.make(16);
        String[] fours = {"a---", "aa--", "a-a-", "aaa-", "aaaa", "b---", "bb--", "b-b-", "bbb-"};
        check.due("note(0)", x.note(0), 0);
        for (int i = 0; i < fours.length; i++) {
            int bracelet = Check.read(x, fours[i]);
            check.due("note of " + fours[i], x.note(bracelet), i + 1);
            x.remove(bracelet);
        }
        check.due("entries()", x.entries(), 10);
        check.due("note(1), an eleventh class", x.note(1), -4);
        check.due("entries()", x.entries(), 10);
        check.due("note(0), a class with an entry", x.note(0), 0);
        check.due("entry(0, 1)", x.entry(0, 1), 2);
        int last = Check.read(x, "2b-b");
        check.due("note of bb-b", x.note(last), 9);
        check.due("entry(9, 1)", x.entry(9, 1), 2);
        check.due("entry(10, 1)", x.entry(10, 1), -1);
        check.due("note(5), the bracelet first", x.note(5), -1);
    }

    private static void entry() {
        CharmBracelets x = new CharmBracelets();
        Check.read(x, "ab-c8-");
        Check.read(x, "4d");
        x.note(0);
        x.note(0);
        x.note(1);
        check.due("entry(0, 0)", x.entry(0, 0), 12);
        check.due("entry(1, 0)", x.entry(1, 0), 4);
        check.due("entry(0, 1)", x.entry(0, 1), 2);
        check.due("entry(1, 1)", x.entry(1, 1), 1);
        check.due("entry(0, 2)", x.entry(0, 2), 1);
        x.copy(0);
        x.roll(2, 5);
        check.due("entry(0, 2), one more, rolled", x.entry(0, 2), 2);
        x.mirror(2);
        check.due("entry(0, 2), mirrored", x.entry(0, 2), 1);
        x.remove(0);
        check.due("entry(0, 2), none is left", x.entry(0, 2), 0);
        check.due("entry(0, 0)", x.entry(0, 0), 12);
        check.due("entry(0, 1)", x.entry(0, 1), 2);
        check.due("entry(2, 0)", x.entry(2, 0), -1);
        check.due("entry(-1, 0)", x.entry(-1, 0), -1);
        check.due("entry(MAX, 0)", x.entry(Integer.MAX_VALUE, 0), -1);
        check.due("entry(0, 3)", x.entry(0, 3), -2);
        check.due("entry(0, -1)", x.entry(0, -1), -2);
        check.due("entry(2, 3), the entry first", x.entry(2, 3), -1);
    }
}
