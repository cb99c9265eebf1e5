import java.lang.reflect.Constructor;
import java.lang.reflect.Field;
import java.lang.reflect.Method;
import java.lang.reflect.Modifier;
import java.util.Set;
import java.util.TreeSet;

/** The public face: just what the document lists, and nothing else that can be seen from outside. */
public final class FaceTest {
    public static void main(String[] args) {
        Set<String> want = new TreeSet<>(Set.of(
                "int feed(int, int, int, int, int) IndexOutOfBoundsException",
                "int end(int) IllegalArgumentException",
                "int again()",
                "int unpack(int) IllegalArgumentException UnsupportedOperationException IndexOutOfBoundsException",
                "int pack(int) IllegalArgumentException UnsupportedOperationException IndexOutOfBoundsException",
                "void mask(int) IllegalArgumentException",
                "long word(int) IndexOutOfBoundsException",
                "int count(int) IllegalArgumentException"));
        Set<String> names = Set.of("feed", "end", "again", "unpack", "pack", "mask", "word", "count");
        Set<String> got = new TreeSet<>();
        for (Method method : LzwBox.class.getDeclaredMethods()) {
            if (!Modifier.isPrivate(method.getModifiers())) {
                Check.same(method + " is public", Modifier.isPublic(method.getModifiers()), true);
                got.add(told(method));
            } else {
                Check.same(method + " bears a public name", names.contains(method.getName()), false);
            }
        }
        Check.same("methods", got, want);
        for (Field field : LzwBox.class.getDeclaredFields()) {
            Check.same(field + " is private", Modifier.isPrivate(field.getModifiers()), true);
        }
        Constructor<?>[] constructors = LzwBox.class.getDeclaredConstructors();
        Check.same("constructors", constructors.length, 1);
        Check.same("constructor", constructors[0].toString(), "public LzwBox()");
        Check.same("class", Modifier.toString(LzwBox.class.getModifiers()), "public final");
        for (Class<?> inside : LzwBox.class.getDeclaredClasses()) {
            Check.same(inside + " is static", Modifier.isStatic(inside.getModifiers()), true);
        }
        Check.finish();
    }

    private static String told(Method method) {
        StringBuilder text = new StringBuilder(method.getReturnType() + " " + method.getName() + "(");
        for (Class<?> parameter : method.getParameterTypes()) {
            text.append(text.charAt(text.length() - 1) == '(' ? "" : ", ").append(parameter);
        }
        text.append(")");
        for (Class<?> thrown : method.getExceptionTypes()) {
            text.append(" ").append(thrown.getSimpleName());
        }
        return text.toString();
    }
}
