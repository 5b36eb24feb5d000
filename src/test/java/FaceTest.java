import java.lang.reflect.Constructor;
import java.lang.reflect.Field;
import java.lang.reflect.Method;
import java.lang.reflect.Modifier;
import java.util.Arrays;
import java.util.Set;
import java.util.TreeSet;

/** The face of the document, and nothing beside it. */
public final class FaceTest {
    private static final String[] DUE = {
        "int feed(int,int,int,int,int) IndexOutOfBoundsException",
        "int certificate(int,boolean) IndexOutOfBoundsException,IllegalArgumentException",
        "int list(int) IndexOutOfBoundsException,IllegalArgumentException",
        "int wrong() ",
        "boolean trust(int,boolean) IndexOutOfBoundsException",
        "long part(int,int) IllegalArgumentException,IndexOutOfBoundsException",
        "long listPart(int,int) IllegalArgumentException,IndexOutOfBoundsException",
        "boolean signed(boolean,int,int) IndexOutOfBoundsException",
        "int digest(int,int) IndexOutOfBoundsException",
        "int validate(int,long,int,boolean) IllegalArgumentException,IndexOutOfBoundsException",
        "int chain(int) IndexOutOfBoundsException",
        "int count(int) IllegalArgumentException",
        "boolean covers(int,long,long,long,long) IndexOutOfBoundsException"
    };

    public static void main(String[] args) {
        Check check = new Check();
        Set<String> due = new TreeSet<>(Arrays.asList(DUE));
        Set<String> faceNames = new TreeSet<>();
        Set<String> got = new TreeSet<>();
        for (Method method : TrustChain.class.getDeclaredMethods()) {
            if (!Modifier.isPrivate(method.getModifiers())) {
                got.add(written(method));
                faceNames.add(method.getName());
            }
        }
        if (!got.equals(due)) {
            check.tell("the face is " + got);
        }
        for (Method method : TrustChain.class.getDeclaredMethods()) {
            if (Modifier.isPrivate(method.getModifiers()) && faceNames.contains(method.getName())) {
                check.tell("a private method bears the name " + method.getName());
            }
        }
        for (Field field : TrustChain.class.getDeclaredFields()) {
            if (!Modifier.isPrivate(field.getModifiers())) {
                check.tell("a field can be seen: " + field);
            }
        }
        Constructor<?>[] constructors = TrustChain.class.getDeclaredConstructors();
        check.same("constructors", constructors.length, 1);
        check.same("parameters", constructors[0].getParameterCount(), 0);
        check.yes("public", Modifier.isPublic(constructors[0].getModifiers()));
        int modifiers = TrustChain.class.getModifiers();
        check.yes("public and final", Modifier.isPublic(modifiers) && Modifier.isFinal(modifiers));
        for (Class<?> inside : TrustChain.class.getDeclaredClasses()) {
            int its = inside.getModifiers();
            boolean hidden = !Modifier.isPublic(its) && !Modifier.isProtected(its);
            check.yes(inside + " is hidden and static", hidden && Modifier.isStatic(its));
        }
        check.end();
    }

    private static String written(Method method) {
        return method.getReturnType().getSimpleName() + " " + method.getName() + "("
            + names(method.getParameterTypes()) + ") " + names(method.getExceptionTypes());
    }

    private static String names(Class<?>[] types) {
        StringBuilder out = new StringBuilder();
        for (Class<?> type : types) {
            out.append(out.length() == 0 ? "" : ",").append(type.getSimpleName());
        }
        return out.toString();
    }
}
