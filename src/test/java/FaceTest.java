import java.lang.reflect.Constructor;
import java.lang.reflect.Field;
import java.lang.reflect.Method;
import java.lang.reflect.Modifier;
import java.util.Arrays;
import java.util.Set;
import java.util.TreeSet;

/** The public face: the members of the document with their types and exceptions, and no others. */
public final class FaceTest {
    private static final Set<String> FACE = Set.of(
        "public static final int ExactReader.NONE",
        "public ExactReader()",
        "public int ExactReader.write(long)",
        "public int ExactReader.repeat(int,int) throws java.lang.IllegalArgumentException",
        "public int ExactReader.cut(int) throws java.lang.IllegalArgumentException",
        "public int ExactReader.wipe()",
        "public int ExactReader.kind()",
        "public int ExactReader.fault()",
        "public long ExactReader.bits() throws java.lang.IllegalStateException",
        "public int ExactReader.floatBits() throws java.lang.IllegalStateException",
        "public int ExactReader.side(boolean) throws java.lang.IllegalStateException",
        "public int ExactReader.compare(long)"
            + " throws java.lang.IllegalStateException,java.lang.IllegalArgumentException");

    public static void main(String[] args) {
        Check check = new Check();
        Set<String> found = new TreeSet<>();
        Arrays.stream(ExactReader.class.getDeclaredFields()).filter(f -> !isPrivate(f.getModifiers()))
            .map(Field::toString).forEach(found::add);
        Arrays.stream(ExactReader.class.getDeclaredConstructors()).filter(c -> !isPrivate(c.getModifiers()))
            .map(Constructor::toString).forEach(found::add);
        Arrays.stream(ExactReader.class.getDeclaredMethods()).filter(m -> !isPrivate(m.getModifiers()))
            .map(Method::toString).forEach(found::add);
        if (!found.equals(FACE)) {
            check.fail("the face is " + found + ", due is " + new TreeSet<>(FACE));
        }
        if (!Modifier.isFinal(ExactReader.class.getModifiers()) || !Modifier.isPublic(ExactReader.class.getModifiers())) {
            check.fail("the class is not public and final");
        }
        check.same("NONE", ExactReader.NONE, -1);
        check.end();
    }

    private static boolean isPrivate(int modifiers) {
        return Modifier.isPrivate(modifiers);
    }
}
