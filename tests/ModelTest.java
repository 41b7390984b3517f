import java.lang.reflect.Method;
import java.util.ArrayList;
import java.util.Arrays;
import java.util.List;

/** Promises 1 to 41: runs of 512 calls each, drawn by a fixed rule, are held against the model. */
public final class ModelTest {
    private static final int RUNS = 1500;
    private static final int CALLS = 512;
    private static final int[] EXTREMES = {Integer.MIN_VALUE, -100, -2, -1, 6, 7, 9, 16, 17, 100, Integer.MAX_VALUE};
    private static final String CODES = "1112345678900abcde---abcdeabcde!z";

    // How often a method is drawn, its name, and what its arguments are.
    private static final String[] METHODS = {
        "1 fill kind stock", "1 weigh kind weight", "2 kind kind part2",
        "2 make size", "2 copy bracelet", "1 remove bracelet", "9 hang bracelet slot kind",
        "2 takeOff bracelet slot", "3 swap bracelet slot slot", "3 roll bracelet slot", "2 turn bracelet quarter",
        "2 mirror bracelet", "1 bracelets", "2 bracelet bracelet quarter", "2 slot bracelet slot",
        "2 quarter bracelet quarter",
        "2 alike bracelet bracelet part2", "2 least bracelet part2 slot", "2 orbit bracelet part2", "2 fixed bracelet",
        "2 distance bracelet bracelet", "1 classes size kind part2",
        "2 setMotif bracelet slot signs", "2 sign index sign", "1 cutMotif", "1 motif index", "2 motifAt bracelet",
        "3 staysAt bracelet", "4 note bracelet", "1 entries", "2 entry entry part2",
        "2 ifHung bracelet slot kindOrEmpty", "2 bestSwap bracelet",
        "14 append code", "1 clearText", "2 errorPosition", "4 read", "2 undo", "1 save", "1 restore"};

    private static final Check check = new Check();
    private static final List<String[]> drawn = new ArrayList<>();
    private static long seed = 20;

    public static void main(String[] args) throws ReflectiveOperationException {
        for (String method : METHODS) {
            String[] words = method.split(" ");
            for (int i = 0; i < Integer.parseInt(words[0]); i++) {
                drawn.add(Arrays.copyOfRange(words, 1, words.length));
            }
        }
        for (int run = 0; run < RUNS; run++) {
            CharmBracelets x = new CharmBracelets();
            Model model = new Model();
            for (int i = 0; i < CALLS; i++) {
                String[] words = drawn.get(draw(drawn.size()));
                call("run " + run + ", call " + i, x, model, words[0], arguments(words));
            }
        }
        allClasses();
        check.finish();
    }

    private static void allClasses() throws ReflectiveOperationException {
        for (int slots = -1; slots <= 17; slots++) {
            for (int kinds = -1; kinds <= 6; kinds++) {
                for (int level = -1; level <= 3; level++) {
                    call("a new object", new CharmBracelets(), new Model(), "classes", new Object[] {slots, kinds, level});
                }
            }
        }
    }

    private static void call(String where, CharmBracelets x, Model model, String name, Object[] arguments)
            throws ReflectiveOperationException {
        Class<?>[] types = new Class<?>[arguments.length];
        Arrays.fill(types, int.class);
        Method asked = CharmBracelets.class.getMethod(name, types);
        Method due = Model.class.getDeclaredMethod(name, types);
        check.due(where + ": " + name + Arrays.toString(arguments),
                ((Number) asked.invoke(x, arguments)).longValue(), ((Number) due.invoke(model, arguments)).longValue());
    }

    private static Object[] arguments(String[] words) {
        Object[] arguments = new Object[words.length - 1];
        for (int i = 0; i < arguments.length; i++) {
            arguments[i] = argument(words[i + 1]);
        }
        return arguments;
    }

    private static int draw(int bound) {
        seed = seed * 6364136223846793005L + 1442695040888963407L;
        return (int) ((seed >>> 33) % bound);
    }

    /** Mostly a value from the range, now and then one next to it or far from it. */
    private static int value(int least, int most) {
        if (draw(25) == 0) {
            return EXTREMES[draw(EXTREMES.length)];
        }
        if (draw(20) == 0) {
            return draw(2) == 0 ? least - 1 : most + 1;
        }
        return least + draw(most - least + 1);
    }

    /** Small numbers come more often where most calls would miss otherwise. */
    private static int argument(String what) {
        switch (what) {
            case "kind": return value(1, 5);
            case "kindOrEmpty": return value(0, 5);
            case "stock": return draw(4) == 0 ? value(90, 99) : value(0, 20);
            case "weight": return draw(2) == 0 ? value(1, 5) : value(1, 50);
            case "size": return draw(10) == 0 ? value(4, 16) : 4 * value(1, 4);
            case "bracelet": return draw(3) == 0 ? value(0, 5) : draw(3);
            case "slot": return draw(4) == 0 ? value(0, 15) : draw(8);
            case "quarter": return value(0, 3);
            case "part2": return value(0, 2);
            case "signs": return draw(2) == 0 ? 1 + draw(2) : value(1, 6);
            case "index": return draw(2) == 0 ? draw(3) : value(0, 5);
            case "sign": return draw(4) == 0 ? CharmBracelets.ANY : value(0, 5);
            case "entry": return draw(2) == 0 ? draw(4) : value(0, 9);
            case "code": return draw(30) == 0 ? value(33, 126) : CODES.charAt(draw(CODES.length()));
            default: throw new IllegalArgumentException(what);
        }
    }
}
