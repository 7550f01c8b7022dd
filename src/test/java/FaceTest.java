import java.lang.reflect.Constructor;
import java.lang.reflect.Field;
import java.lang.reflect.Method;
import java.lang.reflect.Modifier;
import java.util.Arrays;
import java.util.TreeSet;

/** The face: what the document names can be seen from outside, and nothing else. */
public final class FaceTest {
    private static final String[] FACE = {
        "int chant()", "int step(int, int, int)", "int length(int)", "int colour(int, int)",
        "int closes(int)", "int mend(int, int)", "int mended(int)", "int told(int, int, int)",
        "int hand(int, int, int)", "int dye(int, int, int)", "int tie(int)", "int knot(int, int)",
        "int look(int, int, int)", "int found(int, int, int)", "int cut()", "int minutes(int)",
        "int shifts(int)", "int wool(int)", "int hands(int, int)", "int unlike(int, int)",
        "int side(int, int, int)", "int corner(int, int, int, int)", "int fits(int, int, int)",
        "int village(int)", "int tree()", "int link(int)", "int rivals()", "int count(int)",
        "int keep(int, int, int, int)", "int make(int, int, int)",
        "long element(int, int) throws IllegalArgumentException, IllegalStateException",
        "int copy(int, int, int, int, int)", "int weight(int)", "int toss(int)",
    };

    public static void main(String[] args) {
        methodsAreTheDocuments();
        restIsPrivate();
        Checks.end();
    }

    private static void methodsAreTheDocuments() {
        TreeSet<String> seen = new TreeSet<>();
        TreeSet<String> names = new TreeSet<>();
        for (Method m : KnotCaller.class.getDeclaredMethods()) {
            if (!Modifier.isPrivate(m.getModifiers()) && !m.isSynthetic()) {
                seen.add(signature(m));
                names.add(m.getName());
                if (!Modifier.isPublic(m.getModifiers()) || Modifier.isStatic(m.getModifiers())) {
                    Checks.fail(m.getName() + " is not public, or is static");
                }
            }
        }
        Checks.due(seen.toString(), new TreeSet<>(Arrays.asList(FACE)).toString());
        for (Method m : KnotCaller.class.getDeclaredMethods()) {
            if (Modifier.isPrivate(m.getModifiers()) && names.contains(m.getName())) {
                Checks.fail("a private method bears the name " + m.getName());
            }
        }
    }

    private static String signature(Method m) {
        StringBuilder text = new StringBuilder(m.getReturnType().getSimpleName() + " " + m.getName() + "(");
        for (Class<?> type : m.getParameterTypes()) {
            text.append(text.toString().endsWith("(") ? "" : ", ").append(type.getSimpleName());
        }
        text.append(")");
        String before = " throws ";
        for (Class<?> type : m.getExceptionTypes()) {
            text.append(before).append(type.getSimpleName());
            before = ", ";
        }
        return text.toString();
    }

    private static void restIsPrivate() {
        int modifiers = KnotCaller.class.getModifiers();
        Checks.due(Modifier.isPublic(modifiers) && Modifier.isFinal(modifiers) ? 1 : 0, 1);
        Constructor<?>[] constructors = KnotCaller.class.getDeclaredConstructors();
        Checks.due(constructors.length, 1);
        Checks.due(constructors[0].toString(), "public KnotCaller(int)");
        for (Field f : KnotCaller.class.getDeclaredFields()) {
            if (!Modifier.isPrivate(f.getModifiers())) {
                Checks.fail("the field " + f.getName() + " can be seen");
            }
        }
        for (Class<?> inside : KnotCaller.class.getDeclaredClasses()) {
            int m = inside.getModifiers();
            if (!Modifier.isStatic(m) || Modifier.isPublic(m) || Modifier.isProtected(m)) {
                Checks.fail("the class " + inside.getName() + " is not static, or can be seen");
            }
        }
    }
}
