import java.lang.reflect.Constructor;
import java.lang.reflect.Executable;
import java.lang.reflect.Field;
import java.lang.reflect.Method;
import java.lang.reflect.Modifier;
import java.util.Arrays;
import java.util.Set;
import java.util.TreeSet;

/** The class shows the document's face and nothing else, and keeps no state outside its objects. */
public final class FaceTest {
    private static final Set<String> FACE = new TreeSet<>(Set.of(
            "int NONE",
            "IgnoreRules()",
            "int feed(int, long) IllegalArgumentException",
            "int wipe()",
            "int read()",
            "int rule(int, int) IndexOutOfBoundsException, IllegalArgumentException",
            "int path()",
            "boolean fits(int, boolean) IndexOutOfBoundsException, IllegalStateException",
            "boolean out(boolean) IllegalStateException",
            "int by(boolean) IllegalStateException",
            "int depth(boolean) IllegalStateException",
            "int many(boolean) IllegalStateException",
            "boolean name(int, int, int) IndexOutOfBoundsException, IllegalStateException"));

    public static void main(String[] args) {
        Class<?> face = IgnoreRules.class;
        Checks.same("public and final", face.getModifiers(), Modifier.PUBLIC | Modifier.FINAL);
        Set<String> seen = new TreeSet<>();
        Set<String> privateMethods = new TreeSet<>();
        for (Field field : face.getDeclaredFields()) {
            if (!Modifier.isPrivate(field.getModifiers())) {
                seen.add(field.getType().getSimpleName() + " " + field.getName());
            }
        }
        for (Constructor<?> made : face.getDeclaredConstructors()) {
            seen.add("IgnoreRules" + form(made));
        }
        for (Method method : face.getDeclaredMethods()) {
            if (Modifier.isPrivate(method.getModifiers())) {
                privateMethods.add(method.getName());
            } else {
                seen.add(method.getReturnType().getSimpleName() + " " + method.getName() + form(method));
            }
        }
        Checks.same("the face is " + seen + ", and that it is the document's", seen.equals(FACE), true);
        for (Class<?> inside : face.getDeclaredClasses()) {
            int modifiers = inside.getModifiers();
            Checks.same(inside + " is static", Modifier.isStatic(modifiers), true);
            Checks.same(inside + " is hidden", Modifier.isPublic(modifiers) || Modifier.isProtected(modifiers), false);
            Arrays.stream(inside.getDeclaredMethods()).forEach(method -> privateMethods.add(method.getName()));
            staticFieldsAreFinal(inside);
        }
        staticFieldsAreFinal(face);
        for (String name : privateMethods) {
            boolean shown = FACE.stream().anyMatch(member -> member.contains(" " + name + "("));
            Checks.same("a hidden method has the public name " + name, shown, false);
        }
        Checks.end();
    }

    private static String form(Executable member) {
        String errors = names(member.getExceptionTypes());
        return "(" + names(member.getParameterTypes()) + ")" + (errors.isEmpty() ? "" : " " + errors);
    }

    private static String names(Class<?>[] types) {
        return String.join(", ", Arrays.stream(types).map(Class::getSimpleName).toList());
    }

    private static void staticFieldsAreFinal(Class<?> type) {
        for (Field field : type.getDeclaredFields()) {
            int modifiers = field.getModifiers();
            Checks.same(field + " is final", !Modifier.isStatic(modifiers) || Modifier.isFinal(modifiers), true);
        }
    }
}
