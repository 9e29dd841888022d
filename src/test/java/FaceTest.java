import java.lang.reflect.Constructor;
import java.lang.reflect.Field;
import java.lang.reflect.Method;
import java.lang.reflect.Modifier;
import java.util.Arrays;
import java.util.Set;
import java.util.TreeSet;

/** The public face: the document's members, and nothing else that others can see. */
final class FaceTest {
    public static void main(String[] args) {
        Checks c = new Checks();
        Class<?> face = PatternPairs.class;
        c.due("modifiers", Modifier.toString(face.getModifiers()), "public final");
        Set<String> seen = new TreeSet<>();
        for (Method method : face.getDeclaredMethods()) {
            if (!Modifier.isPrivate(method.getModifiers())) {
                seen.add(method.toGenericString());
            }
        }
        for (Field field : face.getDeclaredFields()) {
            if (!Modifier.isPrivate(field.getModifiers())) {
                seen.add(field.toGenericString());
            }
        }
        for (Constructor<?> made : face.getDeclaredConstructors()) {
            seen.add(made.toGenericString());
        }
        String x = "public boolean PatternPairs.";
        String i = "public int PatternPairs.";
        String wrong = " throws java.lang.IllegalArgumentException";
        c.due("members", seen, new TreeSet<>(Arrays.asList(
            "public PatternPairs()",
            i + "feed(int,int,int,int,int) throws java.lang.IndexOutOfBoundsException",
            i + "end(int)" + wrong,
            i + "set(int)" + wrong + ",java.lang.UnsupportedOperationException,java.lang.IndexOutOfBoundsException",
            x + "empty(int)" + wrong,
            x + "fits(int)" + wrong,
            i + "first(int)" + wrong,
            i + "octet(int) throws java.util.NoSuchElementException",
            "public long PatternPairs.count(int,int)" + wrong,
            i + "place()")));
        for (Class<?> inside : face.getDeclaredClasses()) {
            int modifiers = inside.getModifiers();
            c.due(inside + " is static and hidden", Modifier.isStatic(modifiers) && !Modifier.isPublic(modifiers), true);
        }
        c.close();
    }
}
