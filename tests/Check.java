/** Counts the answers that are due and prints those that are not; each test makes one. */
final class Check {
    private int right = 0;
    private int wrong = 0;

    void due(String call, long got, long want) {
        if (got == want) {
            right++;
        } else {
            wrong++;
            System.out.println(call + " answered " + got + ", due is " + want);
        }
    }

    void same(String what, String got, String want) {
        if (got.equals(want)) {
            right++;
        } else {
            wrong++;
            System.out.println(what + " is " + got + ", due is " + want);
        }
    }

    void finish() {
        System.out.println(right + " answers as due, " + wrong + " not");
        if (wrong != 0) {
            System.exit(1);
        }
    }

    /** Puts a text into the buffer in place of what it holds. */
    static void write(CharmBracelets x, String text) {
        x.clearText();
        for (int i = 0; i < text.length(); i++) {
            x.append(text.charAt(i));
        }
    }

    /** Makes the bracelet of a text; returns what read() answers. */
    static int read(CharmBracelets x, String text) {
        write(x, text);
        return x.read();
    }

    /** The slots of a bracelet, written as a text without numbers; a question mark where there is none. */
    static String slots(CharmBracelets x, int bracelet) {
        StringBuilder text = new StringBuilder();
        int slots = x.bracelet(bracelet, 0);
        for (int s = 0; s < slots; s++) {
            int kind = x.slot(bracelet, s);
            text.append(kind >= 0 && kind <= 5 ? "-abcde".charAt(kind) : '?');
        }
        return text.toString();
    }

    /** Most of what an object answers in its state; some 200 calls. */
    static String look(CharmBracelets x) {
        StringBuilder text = new StringBuilder();
        for (int k = 1; k <= 5; k++) {
            text.append(x.kind(k, 0)).append('*').append(x.kind(k, 1)).append(' ');
        }
        for (int b = 0; b < 6; b++) {
            if ((x.bracelets() >> b & 1) != 0) {
                text.append(b).append(':').append(slots(x, b)).append(' ');
            }
        }
        for (int i = 0; x.motif(i) != CharmBracelets.NO_SUCH; i++) {
            text.append('m').append(x.motif(i)).append(' ');
        }
        for (int e = 0; e < x.entries(); e++) {
            text.append('n').append(x.entry(e, 0)).append('*').append(x.entry(e, 1)).append(' ');
            text.append(x.entry(e, 2)).append(' ');
        }
        return text.toString();
    }
}
