import java.lang.reflect.Constructor;
import java.lang.reflect.Field;
import java.lang.reflect.Method;
import java.lang.reflect.Modifier;
import java.util.ArrayList;
import java.util.Arrays;
import java.util.Collections;
import java.util.List;

/** The public face is just the document's, and nothing of the rest can be seen from outside. */
public final class FaceTest {
    private static final String[] FACE = {
        "int at(int,int) throws IndexOutOfBoundsException",
        "int best(int) throws IndexOutOfBoundsException",
        "int come(int) throws IllegalArgumentException,IllegalStateException",
        "int count(int) throws IndexOutOfBoundsException",
        "int customer(int,int) throws IndexOutOfBoundsException",
        "int earn(int,int) throws IndexOutOfBoundsException,IllegalArgumentException",
        "int fetch(int) throws IndexOutOfBoundsException,IllegalStateException",
        "int foresee(int,int) throws IllegalArgumentException,IndexOutOfBoundsException",
        "int most(int) throws IndexOutOfBoundsException",
        "int owes(int) throws IndexOutOfBoundsException",
        "int pass(int) throws IllegalArgumentException",
        "int pledge(int,int,int,int) throws IndexOutOfBoundsException,IllegalArgumentException,IllegalStateException",
        "int raise(int) throws IllegalArgumentException",
        "int renew(int) throws IndexOutOfBoundsException,IllegalStateException",
        "int room(int) throws IllegalArgumentException",
        "int setBuyer(int,int,int) throws IndexOutOfBoundsException,IllegalArgumentException",
        "int ticket(int,int) throws IndexOutOfBoundsException",
        "int tidy()",
        "double fetched()",
        "long digest()",
    };

    public static void main(String[] args) {
        Class<?> program = PawnRack.class;
        Checks.same("PawnRack is public and final", program.getModifiers(), Modifier.PUBLIC | Modifier.FINAL);
        constructors(program);
        methods(program);
        fields(program);
        classesInside(program);
        Checks.end();
    }

    private static void constructors(Class<?> program) {
        Constructor<?>[] all = program.getDeclaredConstructors();
        Checks.same("constructors", all.length, 1);
        Checks.same("the constructor is public", all[0].getModifiers(), Modifier.PUBLIC);
        Checks.same("parameters of the constructor", all[0].getParameterCount(), 0);
    }

    private static void methods(Class<?> program) {
        List<String> open = new ArrayList<>();
        List<String> openNames = new ArrayList<>();
        List<String> privateNames = new ArrayList<>();
        for (Method method : program.getDeclaredMethods()) {
            if (Modifier.isPrivate(method.getModifiers())) {
                privateNames.add(method.getName());
            } else {
                open.add(describe(method));
                openNames.add(method.getName());
            }
        }
        List<String> due = new ArrayList<>(Arrays.asList(FACE));
        Collections.sort(due);
        Collections.sort(open);
        Checks.same("the open methods " + open + " are the document's", open.equals(due) ? 1 : 0, 1);
        Checks.same("private methods with an open name", Collections.disjoint(openNames, privateNames) ? 0 : 1, 0);
    }

    private static String describe(Method method) {
        StringBuilder text = new StringBuilder();
        text.append(Modifier.toString(method.getModifiers()).equals("public") ? "" : "not plainly public ");
        text.append(method.getReturnType().getSimpleName()).append(' ').append(method.getName());
        text.append('(').append(names(method.getParameterTypes())).append(')');
        if (method.getExceptionTypes().length > 0) {
            text.append(" throws ").append(names(method.getExceptionTypes()));
        }
        return text.toString();
    }

    private static String names(Class<?>[] types) {
        List<String> names = new ArrayList<>();
        for (Class<?> type : types) {
            names.add(type.getSimpleName());
        }
        return String.join(",", names);
    }

    private static void fields(Class<?> program) {
        for (Field field : program.getDeclaredFields()) {
            Checks.same(field.getName() + " is private", field.getModifiers() & Modifier.PRIVATE, Modifier.PRIVATE);
        }
        holdsNothingShared(program);
    }

    private static void classesInside(Class<?> program) {
        for (Class<?> inside : program.getDeclaredClasses()) {
            int modifiers = inside.getModifiers();
            boolean isHidden = !Modifier.isPublic(modifiers) && !Modifier.isProtected(modifiers);
            Checks.same(inside.getName() + " is hidden and static", isHidden && Modifier.isStatic(modifiers) ? 1 : 0, 1);
            holdsNothingShared(inside);
            hidesNoFaceName(inside);
        }
    }

    private static void holdsNothingShared(Class<?> owner) {
        for (Field field : owner.getDeclaredFields()) {
            boolean isShared = Modifier.isStatic(field.getModifiers());
            boolean isConstant = Modifier.isFinal(field.getModifiers()) && field.getType().isPrimitive();
            Checks.same(owner.getName() + "." + field.getName() + " is state that all share", isShared && !isConstant ? 1 : 0, 0);
        }
    }

    // LANGUAGE.md's rule 1 says "no private method", so it is held in the classes inside too.
    private static void hidesNoFaceName(Class<?> inside) {
        for (Method method : inside.getDeclaredMethods()) {
            boolean isPrivate = Modifier.isPrivate(method.getModifiers());
            Checks.same(inside.getName() + "." + method.getName() + " hides a name of the face", isPrivate && isOfFace(method.getName()) ? 1 : 0, 0);
        }
    }

    private static boolean isOfFace(String name) {
        for (String line : FACE) {
            if (line.contains(" " + name + "(")) {
                return true;
            }
        }
        return false;
    }
}
