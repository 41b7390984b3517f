import java.lang.reflect.InvocationTargetException;
import java.lang.reflect.Method;
import java.lang.reflect.Modifier;
import java.util.HashMap;
import java.util.Map;

/**
 * An object that is called by words: "hang 0 3 1" calls hang(0, 3, 1); MIN and MAX are the ends of int.
 * Beside the methods there are "text abcd", which puts this text into the buffer in place of what it
 * holds, and "ring abcd", which reads it as well.
 */
final class Words {
    private static final int MOST_CALLS = 512;
    private static final Map<String, Method> METHODS = new HashMap<>();

    static {
        for (Method method : CharmBracelets.class.getDeclaredMethods()) {
            if (Modifier.isPublic(method.getModifiers())) {
                METHODS.put(method.getName(), method);
            }
        }
    }

    private final CharmBracelets x = new CharmBracelets();
    private int calls = 0;

    long call(String words) {
        String[] parts = words.split(" ", 2);
        switch (parts[0]) {
            case "text": return write(parts[1]);
            case "ring": return ring(parts[1]);
            default: return invoke(words.split(" "));
        }
    }

    private long write(String text) {
        long characters = call("clearText");
        for (char c : text.toCharArray()) {
            characters = call("append " + (int) c);
        }
        return characters;
    }

    private long ring(String text) {
        write(text);
        return call("read");
    }

    private long invoke(String[] words) {
        calls++;
        if (calls > MOST_CALLS) {
            throw new IllegalStateException("nothing is promised after " + MOST_CALLS + " calls");
        }
        Object[] arguments = new Object[words.length - 1];
        for (int i = 0; i < arguments.length; i++) {
            arguments[i] = number(words[i + 1]);
        }
        try {
            return ((Number) METHODS.get(words[0]).invoke(x, arguments)).longValue();
        } catch (IllegalAccessException | InvocationTargetException e) {
            throw new IllegalStateException(String.join(" ", words), e);
        }
    }

    private static int number(String word) {
        switch (word) {
            case "MIN": return Integer.MIN_VALUE;
            case "MAX": return Integer.MAX_VALUE;
            default: return Integer.parseInt(word);
        }
    }

    /** The slots of a bracelet, written as a text without numbers. */
    String slots(int bracelet) {
        StringBuilder text = new StringBuilder();
        long slots = call("bracelet " + bracelet + " 0");
        for (int s = 0; s < slots; s++) {
            long kind = call("slot " + bracelet + " " + s);
            text.append(kind >= 0 && kind <= 5 ? "-abcde".charAt((int) kind) : '?');
        }
        return text.toString();
    }

    /** The signs of the motif, one behind the other. */
    String motif() {
        StringBuilder text = new StringBuilder();
        long sign = call("motif 0");
        for (int i = 1; sign >= 0; i++) {
            text.append(sign);
            sign = call("motif " + i);
        }
        return text.toString();
    }

    /** The state: the box, the bracelets, the motif and the list; some 150 calls at most. */
    String state() {
        StringBuilder text = new StringBuilder();
        for (int k = 1; k <= 5; k++) {
            text.append(call("kind " + k + " 0")).append('*').append(call("kind " + k + " 1")).append(' ');
        }
        long bracelets = call("bracelets");
        for (int b = 0; b < 6; b++) {
            if ((bracelets >> b & 1) != 0) {
                text.append(b).append(':').append(slots(b)).append(' ');
            }
        }
        text.append('m').append(motif());
        long entries = call("entries");
        for (int e = 0; e < entries; e++) {
            text.append(" n");
            for (int part = 0; part < 3; part++) {
                text.append(call("entry " + e + " " + part)).append(part < 2 ? "*" : "");
            }
        }
        return text.toString();
    }
}
