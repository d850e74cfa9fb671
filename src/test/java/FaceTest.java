import java.lang.reflect.Constructor;
import java.lang.reflect.Executable;
import java.lang.reflect.Field;
import java.lang.reflect.Member;
import java.lang.reflect.Method;
import java.lang.reflect.Modifier;
import java.util.Arrays;
import java.util.Set;
import java.util.TreeSet;
import java.util.stream.Collectors;

/** The class shows the document's face and nothing else. */
public final class FaceTest {
    private static final Set<String> FACE = new TreeSet<>(Set.of(
        "public static final int NONE",
        "public FountainCode()",
        "public int start(int,int) throws IllegalArgumentException",
        "public int setWeight(int,int) throws IllegalArgumentException,IllegalStateException",
        "public int setBlock(int,int) throws IndexOutOfBoundsException",
        "public int blocks()",
        "public int blockAt(int) throws IndexOutOfBoundsException",
        "public int degree(int)",
        "public int blockOf(int,int) throws IndexOutOfBoundsException",
        "public int valueOf(int)",
        "public int receive(int,int) throws IllegalStateException",
        "public int receiveAll(int,int) throws IllegalArgumentException",
        "public int equations()",
        "public int rank()",
        "public int peeled()",
        "public int peeledAt(int) throws IndexOutOfBoundsException",
        "public int peeledBy(int) throws IndexOutOfBoundsException",
        "public int determined()",
        "public boolean isDetermined(int) throws IndexOutOfBoundsException",
        "public int recovered(int) throws IndexOutOfBoundsException,IllegalStateException",
        "public boolean wouldHelp(int)",
        "public int wouldDetermine(int)",
        "public int nextHelpful(int)",
        "public int missing()"));

    public static void main(String[] args) {
        Checks checks = new Checks();
        Class<?> face = FountainCode.class;
        checks.same("the class", "public final", Modifier.toString(face.getModifiers()));
        checks.same("the face", FACE, shownMembers(face));
        for (Class<?> inside : face.getDeclaredClasses()) {
            checks.same(inside + " is shown", false, (inside.getModifiers() & (Modifier.PUBLIC | Modifier.PROTECTED)) != 0);
        }
        for (Field field : face.getDeclaredFields()) {
            boolean changes = Modifier.isStatic(field.getModifiers()) && !Modifier.isFinal(field.getModifiers());
            checks.same(field + " is static state", false, changes);
        }
        checks.finish();
    }

    private static Set<String> shownMembers(Class<?> face) {
        Set<String> shown = new TreeSet<>();
        for (Field field : face.getDeclaredFields()) {
            if (isShown(field)) {
                shown.add(Modifier.toString(field.getModifiers()) + " " + field.getType() + " " + field.getName());
            }
        }
        for (Constructor<?> constructor : face.getDeclaredConstructors()) {
            if (isShown(constructor)) {
                shown.add(headOf(constructor, ""));
            }
        }
        for (Method method : face.getDeclaredMethods()) {
            if (isShown(method)) {
                shown.add(headOf(method, method.getReturnType() + " "));
            }
        }
        return shown;
    }

    private static boolean isShown(Member member) {
        return !Modifier.isPrivate(member.getModifiers()) && !member.isSynthetic();
    }

    private static String headOf(Executable member, String result) {
        String thrown = namesOf(member.getExceptionTypes());
        return Modifier.toString(member.getModifiers()) + " " + result + member.getName()
            + "(" + namesOf(member.getParameterTypes()) + ")" + (thrown.isEmpty() ? "" : " throws " + thrown);
    }

    private static String namesOf(Class<?>[] types) {
        return Arrays.stream(types).map(Class::getSimpleName).collect(Collectors.joining(","));
    }
}
