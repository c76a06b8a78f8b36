import java.lang.reflect.Constructor;
import java.lang.reflect.Executable;
import java.lang.reflect.Field;
import java.lang.reflect.Method;
import java.lang.reflect.Modifier;
import java.util.Arrays;
import java.util.Set;
import java.util.TreeSet;

/** The face is the document's and no more, and no private method bears the name of a public one. */
public final class FaceTest {
    private static final Set<String> DUE = new TreeSet<>(Arrays.asList(
        "public static final int NONE",
        "public BoundDesk()",
        "public boolean BoundDesk.format(int,int)",
        "public boolean BoundDesk.set(int,int,int)",
        "public boolean BoundDesk.clear(int)",
        "public int BoundDesk.does(int,int,int,int) throws java.lang.IllegalArgumentException",
        "public int BoundDesk.part(int,int,int) throws java.lang.IllegalArgumentException",
        "public int BoundDesk.sum(int,int,int) throws java.lang.IllegalArgumentException",
        "public int BoundDesk.kind(int)",
        "public int BoundDesk.low(int) throws java.util.NoSuchElementException",
        "public int BoundDesk.high(int) throws java.util.NoSuchElementException",
        "public int BoundDesk.middle(int) throws java.util.NoSuchElementException",
        "public int BoundDesk.width(int) throws java.util.NoSuchElementException",
        "public int BoundDesk.compare(int,int)",
        "public boolean BoundDesk.has(int,int)"));
    private static int wrong = 0;

    private static void check(boolean holds, String otherwise) {
        if (!holds) {
            wrong++;
            System.out.println(otherwise);
        }
    }

    private static void collect(Executable member, Set<String> seen) {
        if (!Modifier.isPrivate(member.getModifiers()) && !member.isSynthetic()) {
            seen.add(member.toString());
        }
    }

    private static void checkNames(Class<?> type, Set<String> publicNames) {
        for (Method method : type.getDeclaredMethods()) {
            boolean ofFace = type == BoundDesk.class && Modifier.isPublic(method.getModifiers());
            check(ofFace || !publicNames.contains(method.getName()), "a public name is used again: " + method);
        }
    }

    public static void main(String[] args) {
        int modifiers = BoundDesk.class.getModifiers();
        check(Modifier.isPublic(modifiers) && Modifier.isFinal(modifiers), "the class is not public and final");
        Set<String> seen = new TreeSet<>();
        Set<String> publicNames = new TreeSet<>();
        for (Method method : BoundDesk.class.getDeclaredMethods()) {
            collect(method, seen);
            if (Modifier.isPublic(method.getModifiers())) {
                publicNames.add(method.getName());
            }
        }
        for (Constructor<?> constructor : BoundDesk.class.getDeclaredConstructors()) {
            collect(constructor, seen);
        }
        for (Field field : BoundDesk.class.getDeclaredFields()) {
            if (!Modifier.isPrivate(field.getModifiers())) {
                seen.add(Modifier.toString(field.getModifiers()) + " " + field.getType() + " " + field.getName());
            }
            check(!Modifier.isStatic(field.getModifiers()) || Modifier.isFinal(field.getModifiers()), "static, not final: " + field);
        }
        check(seen.equals(DUE), "the face is " + seen + ", due is " + DUE);
        checkNames(BoundDesk.class, publicNames);
        for (Class<?> inside : BoundDesk.class.getDeclaredClasses()) {
            checkNames(inside, publicNames);
            check(Modifier.isStatic(inside.getModifiers()) && !Modifier.isPublic(inside.getModifiers())
                && !Modifier.isProtected(inside.getModifiers()), "a class inside is not static and hidden: " + inside);
        }
        System.out.println(wrong == 0 ? "the face is as due" : wrong + " faults of the face");
        if (wrong != 0) {
            System.exit(1);
        }
    }
}
