import java.lang.reflect.Constructor;
import java.lang.reflect.Field;
import java.lang.reflect.Method;
import java.lang.reflect.Modifier;
import java.util.Arrays;
import java.util.TreeSet;

/** The public face: the members of the document with their exceptions, and no other that is not private. */
public final class FaceTest {
    private static final String I = "IndexOutOfBoundsException";
    private static final String A = "IllegalArgumentException";
    private static final String S = "IllegalStateException";
    private static final String U = "UnsupportedOperationException";
    private static final String N = "NoSuchElementException";
    private static final String[] FACE = {
        "int add(int,int,int,int,int) " + I + "," + A + "," + S,
        "int remove(int) " + I + "," + A,
        "int move(int,int) " + I + "," + A,
        "int node(int,int) " + I + "," + A,
        "int child(int,int) " + I,
        "int setRule(int,int,int) " + I + "," + A,
        "int setPage(int,int,int) " + I + "," + A,
        "int restriction(int,int) " + I + "," + A,
        "int openPages(int,int) " + I + "," + A,
        "int firstDay(int) " + I + "," + N,
        "int addContainer(int) " + A + "," + S,
        "int put(int,int) " + I + "," + A + "," + S,
        "int takeOut(int) " + I + "," + S,
        "int split(int,int,int) " + I + "," + A + "," + S,
        "int merge(int,int) " + I + "," + A + "," + S,
        "int container(int,int) " + I + "," + A,
        "int unitAt(int,int) " + I,
        "int resolve(int,int) " + N,
        "int copy(int,int) " + I + "," + A + "," + S,
        "int copyPart(int,int) " + I + "," + A,
        "int setSeats(int) " + A,
        "int request(int,int,int) " + I + "," + A + "," + S + "," + U,
        "int requestPart(int,int) " + I + "," + A,
        "int cancel(int) " + I,
        "int review() ",
        "int account(int) " + A,
        "int dayCount(int,int) " + A,
        "double openShare(int) " + A + ",ArithmeticException",
        "int report(int,int) " + N + "," + A,
        "int feed(char) " + S,
        "int read(int) " + I + "," + U,
        "int write(int) " + I,
        "char text(int) " + I,
        "int undo() " + S,
        "int save() ",
        "int restore() " + S,
    };

    public static void main(String[] args) {
        TreeSet<String> face = new TreeSet<>();
        TreeSet<String> publicNames = new TreeSet<>();
        for (Method method : FindingAid.class.getDeclaredMethods()) {
            if (Modifier.isPrivate(method.getModifiers())) {
                continue;
            }
            publicNames.add(method.getName());
            face.add((Modifier.isPublic(method.getModifiers()) ? "" : "hidden ") + describe(method));
        }
        Check.same("the methods", String.join("\n", face), String.join("\n", new TreeSet<>(Arrays.asList(FACE))));
        checkTheRest();
        checkPrivateNames(FindingAid.class, publicNames);
        for (Class<?> inner : FindingAid.class.getDeclaredClasses()) {
            Check.same(inner.getName() + " is static", Modifier.isStatic(inner.getModifiers()) ? 1 : 0, 1);
            Check.same(inner.getName() + " is public", Modifier.isPublic(inner.getModifiers()) ? 1 : 0, 0);
            Check.same(inner.getName() + " has few fields", inner.getDeclaredFields().length <= 20 ? 1 : 0, 1);
            checkPrivateNames(inner, publicNames);
        }
        Check.same("there are few classes", FindingAid.class.getDeclaredClasses().length <= 11 ? 1 : 0, 1);
        Check.end();
    }

    private static void checkTheRest() {
        int modifiers = FindingAid.class.getModifiers();
        Check.same("final class", Modifier.isFinal(modifiers) && Modifier.isPublic(modifiers) ? 1 : 0, 1);
        Constructor<?>[] constructors = FindingAid.class.getDeclaredConstructors();
        Check.same("constructors", constructors.length, 1);
        Check.same("its parameters", constructors[0].getParameterCount(), 0);
        Check.same("it is public", Modifier.isPublic(constructors[0].getModifiers()) ? 1 : 0, 1);
        for (Field field : FindingAid.class.getDeclaredFields()) {
            int its = field.getModifiers();
            Check.same(field + " is private", Modifier.isPrivate(its) ? 1 : 0, 1);
            Check.same(field + " is no static state", !Modifier.isStatic(its) || Modifier.isFinal(its) ? 1 : 0, 1);
        }
    }

    private static void checkPrivateNames(Class<?> owner, TreeSet<String> publicNames) {
        for (Method method : owner.getDeclaredMethods()) {
            boolean isFace = owner == FindingAid.class && Modifier.isPublic(method.getModifiers());
            if (!isFace && publicNames.contains(method.getName())) {
                Check.fail(method + " bears the name of a call of the face");
            }
            Check.same(method + " has few parameters", method.getParameterCount() <= 7 ? 1 : 0, 1);
        }
    }

    private static String describe(Method method) {
        return method.getReturnType() + " " + method.getName() + "(" + names(method.getParameterTypes()) + ") "
            + names(method.getExceptionTypes());
    }

    private static String names(Class<?>[] classes) {
        StringBuilder out = new StringBuilder();
        for (Class<?> one : classes) {
            out.append(out.length() == 0 ? "" : ",").append(one.getSimpleName());
        }
        return out.toString();
    }
}
