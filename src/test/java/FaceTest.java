import java.lang.reflect.Constructor;
import java.lang.reflect.Executable;
import java.lang.reflect.Field;
import java.lang.reflect.Method;
import java.lang.reflect.Modifier;
import java.util.ArrayList;
import java.util.List;
import java.util.Set;
import java.util.TreeSet;

/** The public face as the document writes it, and rule 1 of LANGUAGE.md: nothing else is seen from outside. */
public final class FaceTest {
    private static final String[] FACE = {
        "StampSheets()",
        "int setFeed(int, int) throws IllegalArgumentException",
        "int align()",
        "int roll(int, int) throws IllegalArgumentException",
        "int fit(int, int) throws IndexOutOfBoundsException, IllegalArgumentException",
        "boolean turn(int, int) throws IndexOutOfBoundsException",
        "int run() throws IllegalStateException",
        "int faults(int, int, int) throws IndexOutOfBoundsException",
        "int tear(int, int, int) throws IndexOutOfBoundsException, IllegalStateException",
        "int sheet(int, int) throws IndexOutOfBoundsException",
        "int pin(int, int) throws IndexOutOfBoundsException",
        "int count(int) throws IndexOutOfBoundsException",
        "int foresee(int, int) throws IllegalArgumentException, IndexOutOfBoundsException",
        "int advise(int) throws IllegalArgumentException",
        "int like(int) throws IllegalArgumentException",
        "double share()",
        "long digest()",
    };

    public static void main(String[] args) {
        int modifiers = StampSheets.class.getModifiers();
        Check.due("the class is public and final", Modifier.isPublic(modifiers) && Modifier.isFinal(modifiers), true);
        Check.due("the face", seen(), new TreeSet<>(List.of(FACE)));
        for (Field field : StampSheets.class.getDeclaredFields()) {
            int mods = field.getModifiers();
            Check.due("the field " + field.getName() + " is private", Modifier.isPrivate(mods), true);
            Check.due("the field " + field.getName() + " is no static state", !Modifier.isStatic(mods) || Modifier.isFinal(mods), true);
        }
        for (Class<?> inside : StampSheets.class.getDeclaredClasses()) {
            Check.due(inside.getSimpleName() + " is static", Modifier.isStatic(inside.getModifiers()), true);
        }
        noPrivateMethodIsNamedLikeAPublicOne();
        Check.end();
    }

    private static Set<String> seen() {
        Set<String> seen = new TreeSet<>();
        for (Constructor<?> made : StampSheets.class.getDeclaredConstructors()) {
            seen.add("StampSheets" + rest(made));
        }
        for (Method method : StampSheets.class.getDeclaredMethods()) {
            if (!Modifier.isPrivate(method.getModifiers()) && !method.isSynthetic()) {
                seen.add(method.getReturnType().getSimpleName() + " " + method.getName() + rest(method));
            }
        }
        return seen;
    }

    private static String rest(Executable called) {
        String thrown = names(called.getExceptionTypes());
        return "(" + names(called.getParameterTypes()) + ")" + (thrown.isEmpty() ? "" : " throws " + thrown);
    }

    private static String names(Class<?>[] types) {
        List<String> names = new ArrayList<>();
        for (Class<?> type : types) {
            names.add(type.getSimpleName());
        }
        return String.join(", ", names);
    }

    private static void noPrivateMethodIsNamedLikeAPublicOne() {
        Set<String> face = new TreeSet<>();
        for (Method method : StampSheets.class.getDeclaredMethods()) {
            if (Modifier.isPublic(method.getModifiers())) {
                face.add(method.getName());
            }
        }
        for (Method method : StampSheets.class.getDeclaredMethods()) {
            if (!Modifier.isPublic(method.getModifiers())) {
                Check.due(method.getName() + " is named like one of the face", face.contains(method.getName()), false);
            }
        }
    }
}
