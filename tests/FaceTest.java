import java.lang.reflect.Constructor;
import java.lang.reflect.Field;
import java.lang.reflect.Method;
import java.lang.reflect.Modifier;
import java.util.Set;
import java.util.TreeSet;

/** The public face and the constants; nothing else of the class can be seen from outside (LANGUAGE.md, 1 and 5). */
public final class FaceTest {
    private static final String[] METHODS = {
        "int fill(int,int)", "int weigh(int,int)", "int kind(int,int)", "int make(int)", "int copy(int)",
        "int remove(int)", "int hang(int,int,int)", "int takeOff(int,int)", "int swap(int,int,int)",
        "int roll(int,int)", "int turn(int,int)", "int mirror(int)", "int bracelets()", "int bracelet(int,int)",
        "int slot(int,int)", "int quarter(int,int)", "int alike(int,int,int)", "int least(int,int,int)",
        "int orbit(int,int)", "int fixed(int)", "int distance(int,int)", "long classes(int,int,int)",
        "int setMotif(int,int,int)", "int sign(int,int)", "int cutMotif()", "int motif(int)", "int motifAt(int)",
        "int staysAt(int)", "int note(int)", "int entries()", "int entry(int,int)", "int ifHung(int,int,int)",
        "int bestSwap(int)", "int append(int)", "int clearText()", "int errorPosition()", "int read()",
        "int undo()", "int save()", "int restore()"};
    private static final String[] CONSTANTS = {"NO_SUCH = -1", "BAD_VALUE = -2", "NOT_POSSIBLE = -3", "LIMIT = -4",
        "BAD_TEXT = -5", "NONE = -6", "ANY = 9"};

    private static final Check check = new Check();

    public static void main(String[] args) throws ReflectiveOperationException {
        Class<?> face = CharmBracelets.class;
        check.same("the class", Modifier.toString(face.getModifiers()), "public final");
        check.same("the methods", methods(face).toString(), new TreeSet<>(Set.of(METHODS)).toString());
        check.same("the constants", constants(face).toString(), new TreeSet<>(Set.of(CONSTANTS)).toString());
        for (Constructor<?> constructor : face.getDeclaredConstructors()) {
            check.same("the constructor", constructor.toString(), "public CharmBracelets()");
        }
        Set<String> names = new TreeSet<>();
        for (Method method : face.getMethods()) {
            names.add(method.getName());
        }
        insideOf(face, names);
        for (Class<?> inner : face.getDeclaredClasses()) {
            check.due(inner + " is static", Modifier.isStatic(inner.getModifiers()) ? 1 : 0, 1);
            check.due(inner + " is public", Modifier.isPublic(inner.getModifiers()) ? 1 : 0, 0);
            insideOf(inner, names);
        }
        check.finish();
    }

    private static Set<String> methods(Class<?> face) {
        Set<String> found = new TreeSet<>();
        for (Method method : face.getDeclaredMethods()) {
            if (!Modifier.isPrivate(method.getModifiers())) {
                String text = method.toString().replace("CharmBracelets.", "");
                found.add(text.replace("public ", ""));
            }
        }
        return found;
    }

    private static Set<String> constants(Class<?> face) throws ReflectiveOperationException {
        Set<String> found = new TreeSet<>();
        for (Field field : face.getDeclaredFields()) {
            if (!Modifier.isPrivate(field.getModifiers())) {
                check.same(field.getName(), Modifier.toString(field.getModifiers()), "public static final");
                found.add(field.getName() + " = " + field.get(null));
            }
        }
        return found;
    }

    private static void insideOf(Class<?> part, Set<String> faceNames) {
        for (Field field : part.getDeclaredFields()) {
            boolean variable = Modifier.isStatic(field.getModifiers()) && !Modifier.isFinal(field.getModifiers());
            check.due(field + " is static and not final", variable ? 1 : 0, 0);
        }
        for (Method method : part.getDeclaredMethods()) {
            boolean named = Modifier.isPrivate(method.getModifiers()) && faceNames.contains(method.getName());
            check.due(method + " bears the name of a public one", named ? 1 : 0, 0);
        }
    }
}
